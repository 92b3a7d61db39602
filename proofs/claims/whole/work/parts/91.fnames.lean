/-! The functions of the methods, and the rows that they speak for the w. (generated: wip/whole/gen2.py) -/
def fX5_clear (S : q_V) : Option q_V :=
  q_lt (q_si S 1002 0) (fun T1 =>
  q_lt (q_si T1 1011 0) (fun T2 =>
  q_lt (q_si T2 1012 ((- 1))) (fun T3 =>
  some T3)))
theorem b_X5_clear {g : q_G} {S0 : kp_S} {S : kp_S} {post : kp_S → Prop} {v : q_V} (R : q_Gd 1 g S0 S)  (h : fX5_clear (q_w g S) = some v) (kk : ∀ S, q_Gd 1 g S0 S → v = q_w g S → post S) : wX5_clear (g 0 5 0) S post := by
  unfold wX5_clear; unfold fX5_clear at h
  intro T1 q
  obtain ⟨R, q⟩ := q_wI R q rfl rfl
  replace h := q_ltw h q
  intro T2 q
  obtain ⟨R, q⟩ := q_wI R q rfl rfl
  replace h := q_ltw h q
  intro T3 q
  obtain ⟨R, q⟩ := q_wI R q rfl rfl
  replace h := q_ltw h q
  exact q_finv h kk R
def fX5_blame_b51 (x1 : Int32) (x2 : Int32) (Sn : q_V) : Option q_V :=
  some Sn
theorem b_X5_blame_b51 {g : q_G} {S0 : kp_S} {x1 : Int32} {x2 : Int32} {Sn : kp_S} {post : kp_S → Prop} {v : q_V} (R : q_Gd 1 g S0 Sn)  (h : fX5_blame_b51 x1 x2 (q_w g Sn) = some v) (kk : ∀ S, q_Gd 1 g S0 S → v = q_w g S → post S) : wX5_blame_b51 (g 0 5 0) x1 x2 Sn post := by
  unfold wX5_blame_b51; unfold fX5_blame_b51 at h
  exact q_finv h kk R
def fX5_blame_b41 (x1 : Int32) (x2 : Int32) (Sn : q_V) : Option q_V :=
  q_lt (q_si Sn 1011 x1) (fun T2001 =>
  q_lt (q_si T2001 1012 x2) (fun T2002 =>
  fX5_blame_b51 x1 x2 T2002))
theorem b_X5_blame_b41 {g : q_G} {S0 : kp_S} {x1 : Int32} {x2 : Int32} {Sn : kp_S} {post : kp_S → Prop} {v : q_V} (R : q_Gd 1 g S0 Sn)  (h : fX5_blame_b41 x1 x2 (q_w g Sn) = some v) (kk : ∀ S, q_Gd 1 g S0 S → v = q_w g S → post S) : wX5_blame_b41 (g 0 5 0) x1 x2 Sn post := by
  unfold wX5_blame_b41; unfold fX5_blame_b41 at h
  intro T2001 q
  obtain ⟨R, q⟩ := q_wI R q rfl rfl
  replace h := q_ltw h q
  intro T2002 q
  obtain ⟨R, q⟩ := q_wI R q rfl rfl
  replace h := q_ltw h q
  exact b_X5_blame_b51 R h kk
def fX5_blame_b29 (x1 : Int32) (x2 : Int32) (xt0 : Int32) (Sn : q_V) : Option q_V :=
  if (q_i Sn 1011) = 0 then
  fX5_blame_b41 x1 x2 Sn
  else
  if xt0 = 0 then
  fX5_blame_b51 x1 x2 Sn
  else
  fX5_blame_b41 x1 x2 Sn
theorem b_X5_blame_b29 {g : q_G} {S0 : kp_S} {x1 : Int32} {x2 : Int32} {xt0 : Int32} {Sn : kp_S} {post : kp_S → Prop} {v : q_V} (R : q_Gd 1 g S0 Sn)  (h : fX5_blame_b29 x1 x2 xt0 (q_w g Sn) = some v) (kk : ∀ S, q_Gd 1 g S0 S → v = q_w g S → post S) : wX5_blame_b29 (g 0 5 0) x1 x2 xt0 Sn post := by
  unfold wX5_blame_b29; unfold fX5_blame_b29 at h
  refine ⟨fun c => ?_, fun c => ?_⟩
  · replace h := q_ifp h c
    exact b_X5_blame_b41 R h kk
  · replace h := q_ifn h c
    refine ⟨fun c => ?_, fun c => ?_⟩
    · replace h := q_ifp h c
      exact b_X5_blame_b51 R h kk
    · replace h := q_ifn h c
      exact b_X5_blame_b41 R h kk
def fX5_blame_b24 (x1 : Int32) (x2 : Int32) (Sn : q_V) : Option q_V :=
  fX5_blame_b29 x1 x2 1 Sn
theorem b_X5_blame_b24 {g : q_G} {S0 : kp_S} {x1 : Int32} {x2 : Int32} {Sn : kp_S} {post : kp_S → Prop} {v : q_V} (R : q_Gd 1 g S0 Sn)  (h : fX5_blame_b24 x1 x2 (q_w g Sn) = some v) (kk : ∀ S, q_Gd 1 g S0 S → v = q_w g S → post S) : wX5_blame_b24 (g 0 5 0) x1 x2 Sn post := by
  unfold wX5_blame_b24; unfold fX5_blame_b24 at h
  exact b_X5_blame_b29 R h kk
def fX5_blame_b28 (x1 : Int32) (x2 : Int32) (Sn : q_V) : Option q_V :=
  fX5_blame_b29 x1 x2 0 Sn
theorem b_X5_blame_b28 {g : q_G} {S0 : kp_S} {x1 : Int32} {x2 : Int32} {Sn : kp_S} {post : kp_S → Prop} {v : q_V} (R : q_Gd 1 g S0 Sn)  (h : fX5_blame_b28 x1 x2 (q_w g Sn) = some v) (kk : ∀ S, q_Gd 1 g S0 S → v = q_w g S → post S) : wX5_blame_b28 (g 0 5 0) x1 x2 Sn post := by
  unfold wX5_blame_b28; unfold fX5_blame_b28 at h
  exact b_X5_blame_b29 R h kk
def fX5_blame (x1 : Int32) (x2 : Int32) (S : q_V) : Option q_V :=
  if x2 < (q_i S 1012) then
  fX5_blame_b24 x1 x2 S
  else
  if x2 = (q_i S 1012) then
  if (q_i S 1011) ≤ x1 then
  fX5_blame_b28 x1 x2 S
  else
  fX5_blame_b24 x1 x2 S
  else
  fX5_blame_b28 x1 x2 S
theorem b_X5_blame {g : q_G} {S0 : kp_S} {x1 : Int32} {x2 : Int32} {S : kp_S} {post : kp_S → Prop} {v : q_V} (R : q_Gd 1 g S0 S)  (h : fX5_blame x1 x2 (q_w g S) = some v) (kk : ∀ S, q_Gd 1 g S0 S → v = q_w g S → post S) : wX5_blame (g 0 5 0) x1 x2 S post := by
  unfold wX5_blame; unfold fX5_blame at h
  refine ⟨fun c => ?_, fun c => ?_⟩
  · replace h := q_ifp h c
    exact b_X5_blame_b24 R h kk
  · replace h := q_ifn h c
    refine ⟨fun c => ?_, fun c => ?_⟩
    · replace h := q_ifn h c
      exact b_X5_blame_b28 R h kk
    · replace h := q_ifp h c
      refine ⟨fun c => ?_, fun c => ?_⟩
      · replace h := q_ifp h c
        exact b_X5_blame_b28 R h kk
      · replace h := q_ifn h c
        exact b_X5_blame_b24 R h kk
def fX5_tellDuty_b40 (w1 : Int64) (x3 : Int32) (Sn : q_V) : Option q_V :=
  some Sn
theorem b_X5_tellDuty_b40 {g : q_G} {S0 : kp_S} {w1 : Int64} {x3 : Int32} {Sn : kp_S} {post : kp_S → Prop} {v : q_V} (R : q_Gd 1 g S0 Sn)  (h : fX5_tellDuty_b40 w1 x3 (q_w g Sn) = some v) (kk : ∀ S, q_Gd 1 g S0 S → v = q_w g S → post S) : wX5_tellDuty_b40 (g 0 5 0) w1 x3 Sn post := by
  unfold wX5_tellDuty_b40; unfold fX5_tellDuty_b40 at h
  exact q_finv h kk R
def fX5_tellDuty (w1 : Int64) (x3 : Int32) (S : q_V) : Option q_V :=
  if 300 ≤ (q_i S 1002) then
  fX5_tellDuty_b40 w1 x3 S
  else
  if (q_i S 1002) < 0 ∨ 300 ≤ (q_i S 1002).toNatClampNeg then none else
  q_lt (q_sb S 1000 ((vp_updL (q_b S 1000) ((q_i S 1002).toNatClampNeg) w1))) (fun T2 =>
  if (q_i T2 1002) < 0 ∨ 300 ≤ (q_i T2 1002).toNatClampNeg then none else
  q_lt (q_sa T2 1001 ((upd (q_a T2 1001) ((q_i T2 1002).toNatClampNeg) x3))) (fun T4 =>
  q_lt (q_si T4 1002 (((q_i T4 1002) + 1))) (fun T5 =>
  fX5_tellDuty_b40 w1 x3 T5)))
theorem b_X5_tellDuty {g : q_G} {S0 : kp_S} {w1 : Int64} {x3 : Int32} {S : kp_S} {post : kp_S → Prop} {v : q_V} (R : q_Gd 1 g S0 S)  (h : fX5_tellDuty w1 x3 (q_w g S) = some v) (kk : ∀ S, q_Gd 1 g S0 S → v = q_w g S → post S) : wX5_tellDuty (g 0 5 0) w1 x3 S post := by
  unfold wX5_tellDuty; unfold fX5_tellDuty at h
  refine ⟨fun c => ?_, fun c => ?_⟩
  · replace h := q_ifp h c
    exact b_X5_tellDuty_b40 R h kk
  · replace h := q_ifn h c
    refine ⟨_, q_p1000 R, ?_⟩
    rw [q_l1000 R]
    obtain ⟨hi, h⟩ := q_in h
    refine ⟨hi, ?_⟩
    intro T2 q
    obtain ⟨R, q⟩ := q_wB R q rfl
    replace h := q_ltw h q
    refine ⟨_, q_p1001 R, ?_⟩
    rw [q_l1001 R]
    obtain ⟨hi, h⟩ := q_in h
    refine ⟨hi, ?_⟩
    intro T4 q
    obtain ⟨R, q⟩ := q_wA R q rfl
    replace h := q_ltw h q
    intro T5 q
    obtain ⟨R, q⟩ := q_wI R q rfl rfl
    replace h := q_ltw h q
    exact b_X5_tellDuty_b40 R h kk
def fX5_dutyNamed_b36 (w1 : Int64) (Sn : q_V) : Option (Int32 × q_V) :=
  some ((- 1), Sn)
theorem b_X5_dutyNamed_b36 {g : q_G} {S0 : kp_S} {w1 : Int64} {Sn : kp_S} {post : Int32 → kp_S → Prop} {y : Int32} {v : q_V} (R : q_Gd 1 g S0 Sn)  (h : fX5_dutyNamed_b36 w1 (q_w g Sn) = some (y, v)) (kk : ∀ S, q_Gd 1 g S0 S → v = q_w g S → post y S) : wX5_dutyNamed_b36 (g 0 5 0) w1 Sn post := by
  unfold wX5_dutyNamed_b36; unfold fX5_dutyNamed_b36 at h
  exact q_fin h kk R
def fX5_dutyNamed_L2 (w1 : Int64) : Nat → Int32 → q_V → Option (Int32 × q_V)
  | 0, _, _ => none
  | n + 1, xn3, Sn =>
  if (q_i Sn 1002) ≤ xn3 then
  fX5_dutyNamed_b36 w1 Sn
  else
  if 300 ≤ xn3 then
  fX5_dutyNamed_b36 w1 Sn
  else
  if (xn3) < 0 ∨ 300 ≤ (xn3).toNatClampNeg then none else
  if (lg_cmp (q_b Sn 1000 xn3.toNatClampNeg) w1) = 0 then
  some (xn3, Sn)
  else
  q_lt (xn3 + 1 : Int32) (fun y2002 =>
  fX5_dutyNamed_L2 w1 n y2002 Sn)
theorem b_X5_dutyNamed_L2 {g : q_G} {S0 : kp_S} {w1 : Int64} {post : Int32 → kp_S → Prop} {y : Int32} {v : q_V}  (kk : ∀ S, q_Gd 1 g S0 S → v = q_w g S → post y S) : ∀ (n : Nat) (xn3 : Int32) (Sn : kp_S), q_Gd 1 g S0 Sn → fX5_dutyNamed_L2 w1 n xn3 (q_w g Sn) = some (y, v) → wX5_dutyNamed_L2 (g 0 5 0) w1 post n xn3 Sn := by
  intro n
  induction n with
  | zero => intro xn3 Sn _ h; cases h
  | succ n ih =>
    intro xn3 Sn R h
    unfold wX5_dutyNamed_L2; unfold fX5_dutyNamed_L2 at h
    refine ⟨fun c => ?_, fun c => ?_⟩
    · replace h := q_ifp h c
      exact b_X5_dutyNamed_b36 R h kk
    · replace h := q_ifn h c
      refine ⟨fun c => ?_, fun c => ?_⟩
      · replace h := q_ifp h c
        exact b_X5_dutyNamed_b36 R h kk
      · replace h := q_ifn h c
        refine ⟨_, q_p1000 R, ?_⟩
        rw [q_l1000 R]
        obtain ⟨hi, h⟩ := q_in h
        refine ⟨hi, ?_⟩
        refine ⟨fun c => ?_, fun c => ?_⟩
        · replace h := q_ifn h c
          intro y2002 q
          replace h := q_ltw h q
          exact ih _ _ R h
        · replace h := q_ifp h c
          exact q_fin h kk R
def fX5_dutyNamed (w1 : Int64) (S : q_V) : Option (Int32 × q_V) :=
  fX5_dutyNamed_L2 w1 q_N 0 S
theorem b_X5_dutyNamed {g : q_G} {S0 : kp_S} {w1 : Int64} {S : kp_S} {post : Int32 → kp_S → Prop} {y : Int32} {v : q_V} (R : q_Gd 1 g S0 S)  (h : fX5_dutyNamed w1 (q_w g S) = some (y, v)) (kk : ∀ S, q_Gd 1 g S0 S → v = q_w g S → post y S) : wX5_dutyNamed (g 0 5 0) w1 S post := by
  unfold wX5_dutyNamed; unfold fX5_dutyNamed at h
  exact ⟨q_N, b_X5_dutyNamed_L2 kk q_N _ _ R h⟩
def fX5_beginDuty_b60 (x1 : Int32) (w2 : Int64) (x4 : Int32) (Sn : q_V) : Option q_V :=
  some Sn
theorem b_X5_beginDuty_b60 {g : q_G} {S0 : kp_S} {x1 : Int32} {w2 : Int64} {x4 : Int32} {Sn : kp_S} {post : kp_S → Prop} {v : q_V} (R : q_Gd 1 g S0 Sn)  (h : fX5_beginDuty_b60 x1 w2 x4 (q_w g Sn) = some v) (kk : ∀ S, q_Gd 1 g S0 S → v = q_w g S → post S) : wX5_beginDuty_b60 (g 0 5 0) x1 w2 x4 Sn post := by
  unfold wX5_beginDuty_b60; unfold fX5_beginDuty_b60 at h
  exact q_finv h kk R
def fX5_beginDuty_b46 (x1 : Int32) (w2 : Int64) (x4 : Int32) (Sn : q_V) : Option q_V :=
  if x1 < 30 then
  fX5_beginDuty_b60 x1 w2 x4 Sn
  else
  q_bv (fX5_blame 8 x4 Sn) (fun T2001 =>
  fX5_beginDuty_b60 x1 w2 x4 T2001)
theorem b_X5_beginDuty_b46 {g : q_G} {S0 : kp_S} {x1 : Int32} {w2 : Int64} {x4 : Int32} {Sn : kp_S} {post : kp_S → Prop} {v : q_V} (R : q_Gd 1 g S0 Sn)  (h : fX5_beginDuty_b46 x1 w2 x4 (q_w g Sn) = some v) (kk : ∀ S, q_Gd 1 g S0 S → v = q_w g S → post S) : wX5_beginDuty_b46 (g 0 5 0) x1 w2 x4 Sn post := by
  unfold wX5_beginDuty_b46; unfold fX5_beginDuty_b46 at h
  refine ⟨fun c => ?_, fun c => ?_⟩
  · replace h := q_ifp h c
    exact b_X5_beginDuty_b60 R h kk
  · replace h := q_ifn h c
    obtain ⟨v1, h1, h⟩ := q_bvi h
    refine b_X5_blame R h1 (fun T2001 R q => ?_)
    subst q
    exact b_X5_beginDuty_b60 R h kk
def fX5_beginDuty (x1 : Int32) (w2 : Int64) (x4 : Int32) (S : q_V) : Option q_V :=
  q_lt (q_si S 1005 0) (fun T1 =>
  q_lt (q_si T1 1006 0) (fun T2 =>
  q_lt (q_si T2 1009 0) (fun T3 =>
  q_lt (q_si T3 1010 0) (fun T4 =>
  q_bd (fX5_dutyNamed w2 T4) (fun y6 T5 =>
  if y6 = (- 1) then
  fX5_beginDuty_b46 x1 w2 x4 T5
  else
  if x1 ≤ y6 then
  fX5_beginDuty_b46 x1 w2 x4 T5
  else
  q_bv (fX5_blame 4 x4 T5) (fun T7 =>
  fX5_beginDuty_b46 x1 w2 x4 T7))))))
theorem b_X5_beginDuty {g : q_G} {S0 : kp_S} {x1 : Int32} {w2 : Int64} {x4 : Int32} {S : kp_S} {post : kp_S → Prop} {v : q_V} (R : q_Gd 1 g S0 S)  (h : fX5_beginDuty x1 w2 x4 (q_w g S) = some v) (kk : ∀ S, q_Gd 1 g S0 S → v = q_w g S → post S) : wX5_beginDuty (g 0 5 0) x1 w2 x4 S post := by
  unfold wX5_beginDuty; unfold fX5_beginDuty at h
  intro T1 q
  obtain ⟨R, q⟩ := q_wI R q rfl rfl
  replace h := q_ltw h q
  intro T2 q
  obtain ⟨R, q⟩ := q_wI R q rfl rfl
  replace h := q_ltw h q
  intro T3 q
  obtain ⟨R, q⟩ := q_wI R q rfl rfl
  replace h := q_ltw h q
  intro T4 q
  obtain ⟨R, q⟩ := q_wI R q rfl rfl
  replace h := q_ltw h q
  obtain ⟨y6, v1, h1, h⟩ := q_bdi h
  refine b_X5_dutyNamed R h1 (fun T5 R q => ?_)
  subst q
  refine ⟨fun c => ?_, fun c => ?_⟩
  · replace h := q_ifp h c
    exact b_X5_beginDuty_b46 R h kk
  · replace h := q_ifn h c
    refine ⟨fun c => ?_, fun c => ?_⟩
    · replace h := q_ifp h c
      exact b_X5_beginDuty_b46 R h kk
    · replace h := q_ifn h c
      obtain ⟨v1, h1, h⟩ := q_bvi h
      refine b_X5_blame R h1 (fun T7 R q => ?_)
      subst q
      exact b_X5_beginDuty_b46 R h kk
def fX5_callee_b20 (w1 : Int64) (x3 : Int32) (x4 : Int32) (Sn : q_V) : Option (Int32 × q_V) :=
  q_bv (fX5_blame 5 x3 Sn) (fun T1001 =>
  some (0, T1001))
theorem b_X5_callee_b20 {g : q_G} {S0 : kp_S} {w1 : Int64} {x3 : Int32} {x4 : Int32} {Sn : kp_S} {post : Int32 → kp_S → Prop} {y : Int32} {v : q_V} (R : q_Gd 1 g S0 Sn)  (h : fX5_callee_b20 w1 x3 x4 (q_w g Sn) = some (y, v)) (kk : ∀ S, q_Gd 1 g S0 S → v = q_w g S → post y S) : wX5_callee_b20 (g 0 5 0) w1 x3 x4 Sn post := by
  unfold wX5_callee_b20; unfold fX5_callee_b20 at h
  obtain ⟨v1, h1, h⟩ := q_bvi h
  refine b_X5_blame R h1 (fun T1001 R q => ?_)
  subst q
  exact q_fin h kk R
def fX5_callee_b47 (w1 : Int64) (x3 : Int32) (x4 : Int32) (xn5 : Int32) (Sn : q_V) : Option (Int32 × q_V) :=
  some (xn5, Sn)
theorem b_X5_callee_b47 {g : q_G} {S0 : kp_S} {w1 : Int64} {x3 : Int32} {x4 : Int32} {xn5 : Int32} {Sn : kp_S} {post : Int32 → kp_S → Prop} {y : Int32} {v : q_V} (R : q_Gd 1 g S0 Sn)  (h : fX5_callee_b47 w1 x3 x4 xn5 (q_w g Sn) = some (y, v)) (kk : ∀ S, q_Gd 1 g S0 S → v = q_w g S → post y S) : wX5_callee_b47 (g 0 5 0) w1 x3 x4 xn5 Sn post := by
  unfold wX5_callee_b47; unfold fX5_callee_b47 at h
  exact q_fin h kk R
def fX5_callee (w1 : Int64) (x3 : Int32) (x4 : Int32) (S : q_V) : Option (Int32 × q_V) :=
  q_bd (fX5_dutyNamed w1 S) (fun y2 T1 =>
  if y2 < 0 then
  fX5_callee_b20 w1 x3 x4 T1
  else
  if y2 < 300 then
  if (y2) < 0 ∨ 300 ≤ (y2).toNatClampNeg then none else
  if (q_a T1 1001 y2.toNatClampNeg) = x4 then
  fX5_callee_b47 w1 x3 x4 y2 T1
  else
  q_bv (fX5_blame 7 x3 T1) (fun T4 =>
  fX5_callee_b47 w1 x3 x4 y2 T4)
  else
  fX5_callee_b20 w1 x3 x4 T1)
theorem b_X5_callee {g : q_G} {S0 : kp_S} {w1 : Int64} {x3 : Int32} {x4 : Int32} {S : kp_S} {post : Int32 → kp_S → Prop} {y : Int32} {v : q_V} (R : q_Gd 1 g S0 S)  (h : fX5_callee w1 x3 x4 (q_w g S) = some (y, v)) (kk : ∀ S, q_Gd 1 g S0 S → v = q_w g S → post y S) : wX5_callee (g 0 5 0) w1 x3 x4 S post := by
  unfold wX5_callee; unfold fX5_callee at h
  obtain ⟨y2, v1, h1, h⟩ := q_bdi h
  refine b_X5_dutyNamed R h1 (fun T1 R q => ?_)
  subst q
  refine ⟨fun c => ?_, fun c => ?_⟩
  · replace h := q_ifp h c
    exact b_X5_callee_b20 R h kk
  · replace h := q_ifn h c
    refine ⟨fun c => ?_, fun c => ?_⟩
    · replace h := q_ifp h c
      refine ⟨_, q_p1001 R, ?_⟩
      rw [q_l1001 R]
      obtain ⟨hi, h⟩ := q_in h
      refine ⟨hi, ?_⟩
      refine ⟨fun c => ?_, fun c => ?_⟩
      · replace h := q_ifp h c
        exact b_X5_callee_b47 R h kk
      · replace h := q_ifn h c
        obtain ⟨v1, h1, h⟩ := q_bvi h
        refine b_X5_blame R h1 (fun T4 R q => ?_)
        subst q
        exact b_X5_callee_b47 R h kk
    · replace h := q_ifn h c
      exact b_X5_callee_b20 R h kk
def fX5_findVariable_b40 (w1 : Int64) (Sn : q_V) : Option (Int32 × q_V) :=
  some ((- 1), Sn)
theorem b_X5_findVariable_b40 {g : q_G} {S0 : kp_S} {w1 : Int64} {Sn : kp_S} {post : Int32 → kp_S → Prop} {y : Int32} {v : q_V} (R : q_Gd 1 g S0 Sn)  (h : fX5_findVariable_b40 w1 (q_w g Sn) = some (y, v)) (kk : ∀ S, q_Gd 1 g S0 S → v = q_w g S → post y S) : wX5_findVariable_b40 (g 0 5 0) w1 Sn post := by
  unfold wX5_findVariable_b40; unfold fX5_findVariable_b40 at h
  exact q_fin h kk R
def fX5_findVariable_L2 (w1 : Int64) : Nat → Int32 → q_V → Option (Int32 × q_V)
  | 0, _, _ => none
  | n + 1, xn3, Sn =>
  if (q_i Sn 1005) ≤ xn3 then
  fX5_findVariable_b40 w1 Sn
  else
  if 24 ≤ xn3 then
  fX5_findVariable_b40 w1 Sn
  else
  if (xn3) < 0 ∨ 24 ≤ (xn3).toNatClampNeg then none else
  if (lg_cmp (q_b Sn 1003 xn3.toNatClampNeg) w1) = 0 then
  if (xn3) < 0 ∨ 24 ≤ (xn3).toNatClampNeg then none else
  some ((q_a Sn 1004 xn3.toNatClampNeg), Sn)
  else
  q_lt (xn3 + 1 : Int32) (fun y2002 =>
  fX5_findVariable_L2 w1 n y2002 Sn)
theorem b_X5_findVariable_L2 {g : q_G} {S0 : kp_S} {w1 : Int64} {post : Int32 → kp_S → Prop} {y : Int32} {v : q_V}  (kk : ∀ S, q_Gd 1 g S0 S → v = q_w g S → post y S) : ∀ (n : Nat) (xn3 : Int32) (Sn : kp_S), q_Gd 1 g S0 Sn → fX5_findVariable_L2 w1 n xn3 (q_w g Sn) = some (y, v) → wX5_findVariable_L2 (g 0 5 0) w1 post n xn3 Sn := by
  intro n
  induction n with
  | zero => intro xn3 Sn _ h; cases h
  | succ n ih =>
    intro xn3 Sn R h
    unfold wX5_findVariable_L2; unfold fX5_findVariable_L2 at h
    refine ⟨fun c => ?_, fun c => ?_⟩
    · replace h := q_ifp h c
      exact b_X5_findVariable_b40 R h kk
    · replace h := q_ifn h c
      refine ⟨fun c => ?_, fun c => ?_⟩
      · replace h := q_ifp h c
        exact b_X5_findVariable_b40 R h kk
      · replace h := q_ifn h c
        refine ⟨_, q_p1003 R, ?_⟩
        rw [q_l1003 R]
        obtain ⟨hi, h⟩ := q_in h
        refine ⟨hi, ?_⟩
        refine ⟨fun c => ?_, fun c => ?_⟩
        · replace h := q_ifn h c
          intro y2002 q
          replace h := q_ltw h q
          exact ih _ _ R h
        · replace h := q_ifp h c
          refine ⟨_, q_p1004 R, ?_⟩
          rw [q_l1004 R]
          obtain ⟨hi, h⟩ := q_in h
          refine ⟨hi, ?_⟩
          exact q_fin h kk R
def fX5_findVariable (w1 : Int64) (S : q_V) : Option (Int32 × q_V) :=
  fX5_findVariable_L2 w1 q_N 0 S
theorem b_X5_findVariable {g : q_G} {S0 : kp_S} {w1 : Int64} {S : kp_S} {post : Int32 → kp_S → Prop} {y : Int32} {v : q_V} (R : q_Gd 1 g S0 S)  (h : fX5_findVariable w1 (q_w g S) = some (y, v)) (kk : ∀ S, q_Gd 1 g S0 S → v = q_w g S → post y S) : wX5_findVariable (g 0 5 0) w1 S post := by
  unfold wX5_findVariable; unfold fX5_findVariable at h
  exact ⟨q_N, b_X5_findVariable_L2 kk q_N _ _ R h⟩
def fX5_tellVariable_b88 (w1 : Int64) (x3 : Int32) (xn4 : Int32) (Sn : q_V) : Option (Int32 × q_V) :=
  some (xn4, Sn)
theorem b_X5_tellVariable_b88 {g : q_G} {S0 : kp_S} {w1 : Int64} {x3 : Int32} {xn4 : Int32} {Sn : kp_S} {post : Int32 → kp_S → Prop} {y : Int32} {v : q_V} (R : q_Gd 1 g S0 Sn)  (h : fX5_tellVariable_b88 w1 x3 xn4 (q_w g Sn) = some (y, v)) (kk : ∀ S, q_Gd 1 g S0 S → v = q_w g S → post y S) : wX5_tellVariable_b88 (g 0 5 0) w1 x3 xn4 Sn post := by
  unfold wX5_tellVariable_b88; unfold fX5_tellVariable_b88 at h
  exact q_fin h kk R
def fX5_tellVariable_b15 (w1 : Int64) (x3 : Int32) (Sn : q_V) : Option (Int32 × q_V) :=
  q_lt ((q_i Sn 1006) : Int32) (fun y2001 =>
  q_lt (q_si Sn 1006 (((q_i Sn 1006) + 1))) (fun T2002 =>
  if y2001 < 24 then
  if 24 ≤ (q_i T2002 1005) then
  fX5_tellVariable_b88 w1 x3 y2001 T2002
  else
  if (q_i T2002 1005) < 0 ∨ 24 ≤ (q_i T2002 1005).toNatClampNeg then none else
  q_lt (q_sb T2002 1003 ((vp_updL (q_b T2002 1003) ((q_i T2002 1005).toNatClampNeg) w1))) (fun T2004 =>
  if (q_i T2004 1005) < 0 ∨ 24 ≤ (q_i T2004 1005).toNatClampNeg then none else
  q_lt (q_sa T2004 1004 ((upd (q_a T2004 1004) ((q_i T2004 1005).toNatClampNeg) y2001))) (fun T2006 =>
  q_lt (q_si T2006 1005 (((q_i T2006 1005) + 1))) (fun T2007 =>
  fX5_tellVariable_b88 w1 x3 y2001 T2007)))
  else
  q_bv (fX5_blame 8 x3 T2002) (fun T2009 =>
  fX5_tellVariable_b88 w1 x3 y2001 T2009)))
theorem b_X5_tellVariable_b15 {g : q_G} {S0 : kp_S} {w1 : Int64} {x3 : Int32} {Sn : kp_S} {post : Int32 → kp_S → Prop} {y : Int32} {v : q_V} (R : q_Gd 1 g S0 Sn)  (h : fX5_tellVariable_b15 w1 x3 (q_w g Sn) = some (y, v)) (kk : ∀ S, q_Gd 1 g S0 S → v = q_w g S → post y S) : wX5_tellVariable_b15 (g 0 5 0) w1 x3 Sn post := by
  unfold wX5_tellVariable_b15; unfold fX5_tellVariable_b15 at h
  intro y2001 q
  replace h := q_ltw h q
  intro T2002 q
  obtain ⟨R, q⟩ := q_wI R q rfl rfl
  replace h := q_ltw h q
  refine ⟨fun c => ?_, fun c => ?_⟩
  · replace h := q_ifp h c
    refine ⟨fun c => ?_, fun c => ?_⟩
    · replace h := q_ifp h c
      exact b_X5_tellVariable_b88 R h kk
    · replace h := q_ifn h c
      refine ⟨_, q_p1003 R, ?_⟩
      rw [q_l1003 R]
      obtain ⟨hi, h⟩ := q_in h
      refine ⟨hi, ?_⟩
      intro T2004 q
      obtain ⟨R, q⟩ := q_wB R q rfl
      replace h := q_ltw h q
      refine ⟨_, q_p1004 R, ?_⟩
      rw [q_l1004 R]
      obtain ⟨hi, h⟩ := q_in h
      refine ⟨hi, ?_⟩
      intro T2006 q
      obtain ⟨R, q⟩ := q_wA R q rfl
      replace h := q_ltw h q
      intro T2007 q
      obtain ⟨R, q⟩ := q_wI R q rfl rfl
      replace h := q_ltw h q
      exact b_X5_tellVariable_b88 R h kk
  · replace h := q_ifn h c
    obtain ⟨v1, h1, h⟩ := q_bvi h
    refine b_X5_blame R h1 (fun T2009 R q => ?_)
    subst q
    exact b_X5_tellVariable_b88 R h kk
def fX5_tellVariable (w1 : Int64) (x3 : Int32) (S : q_V) : Option (Int32 × q_V) :=
  q_bd (fX5_findVariable w1 S) (fun y2 T1 =>
  if y2 = (- 1) then
  fX5_tellVariable_b15 w1 x3 T1
  else
  q_bv (fX5_blame 4 x3 T1) (fun T3 =>
  fX5_tellVariable_b15 w1 x3 T3))
theorem b_X5_tellVariable {g : q_G} {S0 : kp_S} {w1 : Int64} {x3 : Int32} {S : kp_S} {post : Int32 → kp_S → Prop} {y : Int32} {v : q_V} (R : q_Gd 1 g S0 S)  (h : fX5_tellVariable w1 x3 (q_w g S) = some (y, v)) (kk : ∀ S, q_Gd 1 g S0 S → v = q_w g S → post y S) : wX5_tellVariable (g 0 5 0) w1 x3 S post := by
  unfold wX5_tellVariable; unfold fX5_tellVariable at h
  obtain ⟨y2, v1, h1, h⟩ := q_bdi h
  refine b_X5_findVariable R h1 (fun T1 R q => ?_)
  subst q
  refine ⟨fun c => ?_, fun c => ?_⟩
  · replace h := q_ifp h c
    exact b_X5_tellVariable_b15 R h kk
  · replace h := q_ifn h c
    obtain ⟨v1, h1, h⟩ := q_bvi h
    refine b_X5_blame R h1 (fun T3 R q => ?_)
    subst q
    exact b_X5_tellVariable_b15 R h kk
def fX5_tellParameter_b16 (w1 : Int64) (x3 : Int32) (Sn : q_V) : Option q_V :=
  q_bd (fX5_tellVariable w1 x3 Sn) (fun y1002 T1001 =>
  some T1001)
theorem b_X5_tellParameter_b16 {g : q_G} {S0 : kp_S} {w1 : Int64} {x3 : Int32} {Sn : kp_S} {post : kp_S → Prop} {v : q_V} (R : q_Gd 1 g S0 Sn)  (h : fX5_tellParameter_b16 w1 x3 (q_w g Sn) = some v) (kk : ∀ S, q_Gd 1 g S0 S → v = q_w g S → post S) : wX5_tellParameter_b16 (g 0 5 0) w1 x3 Sn post := by
  unfold wX5_tellParameter_b16; unfold fX5_tellParameter_b16 at h
  obtain ⟨y1002, v1, h1, h⟩ := q_bdi h
  refine b_X5_tellVariable R h1 (fun T1001 R q => ?_)
  subst q
  exact q_finv h kk R
def fX5_tellParameter (w1 : Int64) (x3 : Int32) (S : q_V) : Option q_V :=
  if (q_i S 1006) < 8 then
  fX5_tellParameter_b16 w1 x3 S
  else
  q_bv (fX5_blame 8 x3 S) (fun T1 =>
  fX5_tellParameter_b16 w1 x3 T1)
theorem b_X5_tellParameter {g : q_G} {S0 : kp_S} {w1 : Int64} {x3 : Int32} {S : kp_S} {post : kp_S → Prop} {v : q_V} (R : q_Gd 1 g S0 S)  (h : fX5_tellParameter w1 x3 (q_w g S) = some v) (kk : ∀ S, q_Gd 1 g S0 S → v = q_w g S → post S) : wX5_tellParameter (g 0 5 0) w1 x3 S post := by
  unfold wX5_tellParameter; unfold fX5_tellParameter at h
  refine ⟨fun c => ?_, fun c => ?_⟩
  · replace h := q_ifp h c
    exact b_X5_tellParameter_b16 R h kk
  · replace h := q_ifn h c
    obtain ⟨v1, h1, h⟩ := q_bvi h
    refine b_X5_blame R h1 (fun T1 R q => ?_)
    subst q
    exact b_X5_tellParameter_b16 R h kk
def fX5_slotOf_b19 (w1 : Int64) (x3 : Int32) (xn4 : Int32) (Sn : q_V) : Option (Int32 × q_V) :=
  some (xn4, Sn)
theorem b_X5_slotOf_b19 {g : q_G} {S0 : kp_S} {w1 : Int64} {x3 : Int32} {xn4 : Int32} {Sn : kp_S} {post : Int32 → kp_S → Prop} {y : Int32} {v : q_V} (R : q_Gd 1 g S0 Sn)  (h : fX5_slotOf_b19 w1 x3 xn4 (q_w g Sn) = some (y, v)) (kk : ∀ S, q_Gd 1 g S0 S → v = q_w g S → post y S) : wX5_slotOf_b19 (g 0 5 0) w1 x3 xn4 Sn post := by
  unfold wX5_slotOf_b19; unfold fX5_slotOf_b19 at h
  exact q_fin h kk R
def fX5_slotOf (w1 : Int64) (x3 : Int32) (S : q_V) : Option (Int32 × q_V) :=
  q_bd (fX5_findVariable w1 S) (fun y2 T1 =>
  if y2 = (- 1) then
  q_bv (fX5_blame 5 x3 T1) (fun T3 =>
  fX5_slotOf_b19 w1 x3 y2 T3)
  else
  fX5_slotOf_b19 w1 x3 y2 T1)
theorem b_X5_slotOf {g : q_G} {S0 : kp_S} {w1 : Int64} {x3 : Int32} {S : kp_S} {post : Int32 → kp_S → Prop} {y : Int32} {v : q_V} (R : q_Gd 1 g S0 S)  (h : fX5_slotOf w1 x3 (q_w g S) = some (y, v)) (kk : ∀ S, q_Gd 1 g S0 S → v = q_w g S → post y S) : wX5_slotOf (g 0 5 0) w1 x3 S post := by
  unfold wX5_slotOf; unfold fX5_slotOf at h
  obtain ⟨y2, v1, h1, h⟩ := q_bdi h
  refine b_X5_findVariable R h1 (fun T1 R q => ?_)
  subst q
  refine ⟨fun c => ?_, fun c => ?_⟩
  · replace h := q_ifn h c
    exact b_X5_slotOf_b19 R h kk
  · replace h := q_ifp h c
    obtain ⟨v1, h1, h⟩ := q_bvi h
    refine b_X5_blame R h1 (fun T3 R q => ?_)
    subst q
    exact b_X5_slotOf_b19 R h kk
def fX5_variableCount (S : q_V) : Option (Int32 × q_V) :=
  some ((q_i S 1006), S)
theorem b_X5_variableCount {g : q_G} {S0 : kp_S} {S : kp_S} {post : Int32 → kp_S → Prop} {y : Int32} {v : q_V} (R : q_Gd 1 g S0 S)  (h : fX5_variableCount (q_w g S) = some (y, v)) (kk : ∀ S, q_Gd 1 g S0 S → v = q_w g S → post y S) : wX5_variableCount (g 0 5 0) S post := by
  unfold wX5_variableCount; unfold fX5_variableCount at h
  exact q_fin h kk R
def fX5_knownNow (S : q_V) : Option (Int32 × q_V) :=
  some ((q_i S 1005), S)
theorem b_X5_knownNow {g : q_G} {S0 : kp_S} {S : kp_S} {post : Int32 → kp_S → Prop} {y : Int32} {v : q_V} (R : q_Gd 1 g S0 S)  (h : fX5_knownNow (q_w g S) = some (y, v)) (kk : ∀ S, q_Gd 1 g S0 S → v = q_w g S → post y S) : wX5_knownNow (g 0 5 0) S post := by
  unfold wX5_knownNow; unfold fX5_knownNow at h
  exact q_fin h kk R
def fX5_forgetBehind (x1 : Int32) (S : q_V) : Option q_V :=
  q_lt (q_si S 1005 x1) (fun T1 =>
  some T1)
theorem b_X5_forgetBehind {g : q_G} {S0 : kp_S} {x1 : Int32} {S : kp_S} {post : kp_S → Prop} {v : q_V} (R : q_Gd 1 g S0 S)  (h : fX5_forgetBehind x1 (q_w g S) = some v) (kk : ∀ S, q_Gd 1 g S0 S → v = q_w g S → post S) : wX5_forgetBehind (g 0 5 0) x1 S post := by
  unfold wX5_forgetBehind; unfold fX5_forgetBehind at h
  intro T1 q
  obtain ⟨R, q⟩ := q_wI R q rfl rfl
  replace h := q_ltw h q
  exact q_finv h kk R
def fX5_findLoop_L12 (w1 : Int64) : Nat → Int32 → q_V → Option (Int32 × q_V)
  | 0, _, _ => none
  | n + 1, xn3, Sn =>
  if xn3 < (q_i Sn 1010) then
  some ((- 1), Sn)
  else
  if (xn3) < 0 ∨ 14 ≤ (xn3).toNatClampNeg then none else
  if (lg_cmp (q_b Sn 1007 xn3.toNatClampNeg) w1) = 0 then
  some (xn3, Sn)
  else
  q_lt (xn3 + (- 1) : Int32) (fun y1002 =>
  fX5_findLoop_L12 w1 n y1002 Sn)
theorem b_X5_findLoop_L12 {g : q_G} {S0 : kp_S} {w1 : Int64} {post : Int32 → kp_S → Prop} {y : Int32} {v : q_V}  (kk : ∀ S, q_Gd 1 g S0 S → v = q_w g S → post y S) : ∀ (n : Nat) (xn3 : Int32) (Sn : kp_S), q_Gd 1 g S0 Sn → fX5_findLoop_L12 w1 n xn3 (q_w g Sn) = some (y, v) → wX5_findLoop_L12 (g 0 5 0) w1 post n xn3 Sn := by
  intro n
  induction n with
  | zero => intro xn3 Sn _ h; cases h
  | succ n ih =>
    intro xn3 Sn R h
    unfold wX5_findLoop_L12; unfold fX5_findLoop_L12 at h
    refine ⟨fun c => ?_, fun c => ?_⟩
    · replace h := q_ifp h c
      exact q_fin h kk R
    · replace h := q_ifn h c
      refine ⟨_, q_p1007 R, ?_⟩
      rw [q_l1007 R]
      obtain ⟨hi, h⟩ := q_in h
      refine ⟨hi, ?_⟩
      refine ⟨fun c => ?_, fun c => ?_⟩
      · replace h := q_ifn h c
        intro y1002 q
        replace h := q_ltw h q
        exact ih _ _ R h
      · replace h := q_ifp h c
        exact q_fin h kk R
def fX5_findLoop (w1 : Int64) (S : q_V) : Option (Int32 × q_V) :=
  q_lt (((if (14 : Int32) < (q_i S 1009) then 14 else (q_i S 1009)) - 1) : Int32) (fun y1 =>
  fX5_findLoop_L12 w1 q_N y1 S)
theorem b_X5_findLoop {g : q_G} {S0 : kp_S} {w1 : Int64} {S : kp_S} {post : Int32 → kp_S → Prop} {y : Int32} {v : q_V} (R : q_Gd 1 g S0 S)  (h : fX5_findLoop w1 (q_w g S) = some (y, v)) (kk : ∀ S, q_Gd 1 g S0 S → v = q_w g S → post y S) : wX5_findLoop (g 0 5 0) w1 S post := by
  unfold wX5_findLoop; unfold fX5_findLoop at h
  intro y1 q
  replace h := q_ltw h q
  exact ⟨q_N, b_X5_findLoop_L12 kk q_N _ _ R h⟩
def fX5_tellLabel_b15 (w1 : Int64) (x3 : Int32) (Sn : q_V) : Option q_V :=
  some Sn
theorem b_X5_tellLabel_b15 {g : q_G} {S0 : kp_S} {w1 : Int64} {x3 : Int32} {Sn : kp_S} {post : kp_S → Prop} {v : q_V} (R : q_Gd 1 g S0 Sn)  (h : fX5_tellLabel_b15 w1 x3 (q_w g Sn) = some v) (kk : ∀ S, q_Gd 1 g S0 S → v = q_w g S → post S) : wX5_tellLabel_b15 (g 0 5 0) w1 x3 Sn post := by
  unfold wX5_tellLabel_b15; unfold fX5_tellLabel_b15 at h
  exact q_finv h kk R
def fX5_tellLabel (w1 : Int64) (x3 : Int32) (S : q_V) : Option q_V :=
  q_bd (fX5_findLoop w1 S) (fun y2 T1 =>
  if y2 = (- 1) then
  fX5_tellLabel_b15 w1 x3 T1
  else
  q_bv (fX5_blame 4 x3 T1) (fun T3 =>
  fX5_tellLabel_b15 w1 x3 T3))
theorem b_X5_tellLabel {g : q_G} {S0 : kp_S} {w1 : Int64} {x3 : Int32} {S : kp_S} {post : kp_S → Prop} {v : q_V} (R : q_Gd 1 g S0 S)  (h : fX5_tellLabel w1 x3 (q_w g S) = some v) (kk : ∀ S, q_Gd 1 g S0 S → v = q_w g S → post S) : wX5_tellLabel (g 0 5 0) w1 x3 S post := by
  unfold wX5_tellLabel; unfold fX5_tellLabel at h
  obtain ⟨y2, v1, h1, h⟩ := q_bdi h
  refine b_X5_findLoop R h1 (fun T1 R q => ?_)
  subst q
  refine ⟨fun c => ?_, fun c => ?_⟩
  · replace h := q_ifp h c
    exact b_X5_tellLabel_b15 R h kk
  · replace h := q_ifn h c
    obtain ⟨v1, h1, h⟩ := q_bvi h
    refine b_X5_blame R h1 (fun T3 R q => ?_)
    subst q
    exact b_X5_tellLabel_b15 R h kk
def fX5_enterLoop_b29 (w1 : Int64) (x3 : Int32) (Sn : q_V) : Option q_V :=
  q_lt (q_si Sn 1009 (((q_i Sn 1009) + 1))) (fun T1001 =>
  some T1001)
theorem b_X5_enterLoop_b29 {g : q_G} {S0 : kp_S} {w1 : Int64} {x3 : Int32} {Sn : kp_S} {post : kp_S → Prop} {v : q_V} (R : q_Gd 1 g S0 Sn)  (h : fX5_enterLoop_b29 w1 x3 (q_w g Sn) = some v) (kk : ∀ S, q_Gd 1 g S0 S → v = q_w g S → post S) : wX5_enterLoop_b29 (g 0 5 0) w1 x3 Sn post := by
  unfold wX5_enterLoop_b29; unfold fX5_enterLoop_b29 at h
  intro T1001 q
  obtain ⟨R, q⟩ := q_wI R q rfl rfl
  replace h := q_ltw h q
  exact q_finv h kk R
def fX5_enterLoop (w1 : Int64) (x3 : Int32) (S : q_V) : Option q_V :=
  if 14 ≤ (q_i S 1009) then
  fX5_enterLoop_b29 w1 x3 S
  else
  if (q_i S 1009) < 0 ∨ 14 ≤ (q_i S 1009).toNatClampNeg then none else
  q_lt (q_sb S 1007 ((vp_updL (q_b S 1007) ((q_i S 1009).toNatClampNeg) w1))) (fun T2 =>
  if (q_i T2 1009) < 0 ∨ 14 ≤ (q_i T2 1009).toNatClampNeg then none else
  q_lt (q_sa T2 1008 ((upd (q_a T2 1008) ((q_i T2 1009).toNatClampNeg) x3))) (fun T4 =>
  fX5_enterLoop_b29 w1 x3 T4))
theorem b_X5_enterLoop {g : q_G} {S0 : kp_S} {w1 : Int64} {x3 : Int32} {S : kp_S} {post : kp_S → Prop} {v : q_V} (R : q_Gd 1 g S0 S)  (h : fX5_enterLoop w1 x3 (q_w g S) = some v) (kk : ∀ S, q_Gd 1 g S0 S → v = q_w g S → post S) : wX5_enterLoop (g 0 5 0) w1 x3 S post := by
  unfold wX5_enterLoop; unfold fX5_enterLoop at h
  refine ⟨fun c => ?_, fun c => ?_⟩
  · replace h := q_ifp h c
    exact b_X5_enterLoop_b29 R h kk
  · replace h := q_ifn h c
    refine ⟨_, q_p1007 R, ?_⟩
    rw [q_l1007 R]
    obtain ⟨hi, h⟩ := q_in h
    refine ⟨hi, ?_⟩
    intro T2 q
    obtain ⟨R, q⟩ := q_wB R q rfl
    replace h := q_ltw h q
    refine ⟨_, q_p1008 R, ?_⟩
    rw [q_l1008 R]
    obtain ⟨hi, h⟩ := q_in h
    refine ⟨hi, ?_⟩
    intro T4 q
    obtain ⟨R, q⟩ := q_wA R q rfl
    replace h := q_ltw h q
    exact b_X5_enterLoop_b29 R h kk
def fX5_leaveLoop (S : q_V) : Option q_V :=
  q_lt (q_si S 1009 (((q_i S 1009) - 1))) (fun T1 =>
  some T1)
theorem b_X5_leaveLoop {g : q_G} {S0 : kp_S} {S : kp_S} {post : kp_S → Prop} {v : q_V} (R : q_Gd 1 g S0 S)  (h : fX5_leaveLoop (q_w g S) = some v) (kk : ∀ S, q_Gd 1 g S0 S → v = q_w g S → post S) : wX5_leaveLoop (g 0 5 0) S post := by
  unfold wX5_leaveLoop; unfold fX5_leaveLoop at h
  intro T1 q
  obtain ⟨R, q⟩ := q_wI R q rfl rfl
  replace h := q_ltw h q
  exact q_finv h kk R
def fX5_loopLabelled_b19 (w1 : Int64) (x3 : Int32) (xn4 : Int32) (Sn : q_V) : Option (Int32 × q_V) :=
  some (xn4, Sn)
theorem b_X5_loopLabelled_b19 {g : q_G} {S0 : kp_S} {w1 : Int64} {x3 : Int32} {xn4 : Int32} {Sn : kp_S} {post : Int32 → kp_S → Prop} {y : Int32} {v : q_V} (R : q_Gd 1 g S0 Sn)  (h : fX5_loopLabelled_b19 w1 x3 xn4 (q_w g Sn) = some (y, v)) (kk : ∀ S, q_Gd 1 g S0 S → v = q_w g S → post y S) : wX5_loopLabelled_b19 (g 0 5 0) w1 x3 xn4 Sn post := by
  unfold wX5_loopLabelled_b19; unfold fX5_loopLabelled_b19 at h
  exact q_fin h kk R
def fX5_loopLabelled (w1 : Int64) (x3 : Int32) (S : q_V) : Option (Int32 × q_V) :=
  q_bd (fX5_findLoop w1 S) (fun y2 T1 =>
  if y2 = (- 1) then
  q_bv (fX5_blame 5 x3 T1) (fun T3 =>
  fX5_loopLabelled_b19 w1 x3 y2 T3)
  else
  fX5_loopLabelled_b19 w1 x3 y2 T1)
theorem b_X5_loopLabelled {g : q_G} {S0 : kp_S} {w1 : Int64} {x3 : Int32} {S : kp_S} {post : Int32 → kp_S → Prop} {y : Int32} {v : q_V} (R : q_Gd 1 g S0 S)  (h : fX5_loopLabelled w1 x3 (q_w g S) = some (y, v)) (kk : ∀ S, q_Gd 1 g S0 S → v = q_w g S → post y S) : wX5_loopLabelled (g 0 5 0) w1 x3 S post := by
  unfold wX5_loopLabelled; unfold fX5_loopLabelled at h
  obtain ⟨y2, v1, h1, h⟩ := q_bdi h
  refine b_X5_findLoop R h1 (fun T1 R q => ?_)
  subst q
  refine ⟨fun c => ?_, fun c => ?_⟩
  · replace h := q_ifn h c
    exact b_X5_loopLabelled_b19 R h kk
  · replace h := q_ifp h c
    obtain ⟨v1, h1, h⟩ := q_bvi h
    refine b_X5_blame R h1 (fun T3 R q => ?_)
    subst q
    exact b_X5_loopLabelled_b19 R h kk
def fX5_innermostLoop (x1 : Int32) (S : q_V) : Option (Int32 × q_V) :=
  if (q_i S 1009) ≤ (q_i S 1010) then
  q_bv (fX5_blame 6 x1 S) (fun T1 =>
  some ((- 1), T1))
  else
  some (((q_i S 1009) - 1), S)
theorem b_X5_innermostLoop {g : q_G} {S0 : kp_S} {x1 : Int32} {S : kp_S} {post : Int32 → kp_S → Prop} {y : Int32} {v : q_V} (R : q_Gd 1 g S0 S)  (h : fX5_innermostLoop x1 (q_w g S) = some (y, v)) (kk : ∀ S, q_Gd 1 g S0 S → v = q_w g S → post y S) : wX5_innermostLoop (g 0 5 0) x1 S post := by
  unfold wX5_innermostLoop; unfold fX5_innermostLoop at h
  refine ⟨fun c => ?_, fun c => ?_⟩
  · replace h := q_ifp h c
    obtain ⟨v1, h1, h⟩ := q_bvi h
    refine b_X5_blame R h1 (fun T1 R q => ?_)
    subst q
    exact q_fin h kk R
  · replace h := q_ifn h c
    exact q_fin h kk R
def fX5_roundOf_b20 (x1 : Int32) (xt0 : Int32) (Sn : q_V) : Option (Int32 × q_V) :=
  some (xt0, Sn)
theorem b_X5_roundOf_b20 {g : q_G} {S0 : kp_S} {x1 : Int32} {xt0 : Int32} {Sn : kp_S} {post : Int32 → kp_S → Prop} {y : Int32} {v : q_V} (R : q_Gd 1 g S0 Sn)  (h : fX5_roundOf_b20 x1 xt0 (q_w g Sn) = some (y, v)) (kk : ∀ S, q_Gd 1 g S0 S → v = q_w g S → post y S) : wX5_roundOf_b20 (g 0 5 0) x1 xt0 Sn post := by
  unfold wX5_roundOf_b20; unfold fX5_roundOf_b20 at h
  exact q_fin h kk R
def fX5_roundOf_b19 (x1 : Int32) (Sn : q_V) : Option (Int32 × q_V) :=
  fX5_roundOf_b20 x1 0 Sn
theorem b_X5_roundOf_b19 {g : q_G} {S0 : kp_S} {x1 : Int32} {Sn : kp_S} {post : Int32 → kp_S → Prop} {y : Int32} {v : q_V} (R : q_Gd 1 g S0 Sn)  (h : fX5_roundOf_b19 x1 (q_w g Sn) = some (y, v)) (kk : ∀ S, q_Gd 1 g S0 S → v = q_w g S → post y S) : wX5_roundOf_b19 (g 0 5 0) x1 Sn post := by
  unfold wX5_roundOf_b19; unfold fX5_roundOf_b19 at h
  exact b_X5_roundOf_b20 R h kk
def fX5_roundOf (x1 : Int32) (S : q_V) : Option (Int32 × q_V) :=
  if x1 < 0 then
  fX5_roundOf_b19 x1 S
  else
  if 14 ≤ x1 then
  fX5_roundOf_b19 x1 S
  else
  if (x1) < 0 ∨ 14 ≤ (x1).toNatClampNeg then none else
  fX5_roundOf_b20 x1 ((q_a S 1008 x1.toNatClampNeg)) S
theorem b_X5_roundOf {g : q_G} {S0 : kp_S} {x1 : Int32} {S : kp_S} {post : Int32 → kp_S → Prop} {y : Int32} {v : q_V} (R : q_Gd 1 g S0 S)  (h : fX5_roundOf x1 (q_w g S) = some (y, v)) (kk : ∀ S, q_Gd 1 g S0 S → v = q_w g S → post y S) : wX5_roundOf (g 0 5 0) x1 S post := by
  unfold wX5_roundOf; unfold fX5_roundOf at h
  refine ⟨fun c => ?_, fun c => ?_⟩
  · replace h := q_ifp h c
    exact b_X5_roundOf_b19 R h kk
  · replace h := q_ifn h c
    refine ⟨fun c => ?_, fun c => ?_⟩
    · replace h := q_ifp h c
      exact b_X5_roundOf_b19 R h kk
    · replace h := q_ifn h c
      refine ⟨_, q_p1008 R, ?_⟩
      rw [q_l1008 R]
      obtain ⟨hi, h⟩ := q_in h
      refine ⟨hi, ?_⟩
      exact b_X5_roundOf_b20 R h kk
def fX5_loopsNow (S : q_V) : Option (Int32 × q_V) :=
  some ((q_i S 1009), S)
theorem b_X5_loopsNow {g : q_G} {S0 : kp_S} {S : kp_S} {post : Int32 → kp_S → Prop} {y : Int32} {v : q_V} (R : q_Gd 1 g S0 S)  (h : fX5_loopsNow (q_w g S) = some (y, v)) (kk : ∀ S, q_Gd 1 g S0 S → v = q_w g S → post y S) : wX5_loopsNow (g 0 5 0) S post := by
  unfold wX5_loopsNow; unfold fX5_loopsNow at h
  exact q_fin h kk R
def fX5_enterLater (S : q_V) : Option (Int32 × q_V) :=
  q_lt ((q_i S 1010) : Int32) (fun y1 =>
  q_lt (q_si S 1010 ((q_i S 1009))) (fun T2 =>
  some (y1, T2)))
theorem b_X5_enterLater {g : q_G} {S0 : kp_S} {S : kp_S} {post : Int32 → kp_S → Prop} {y : Int32} {v : q_V} (R : q_Gd 1 g S0 S)  (h : fX5_enterLater (q_w g S) = some (y, v)) (kk : ∀ S, q_Gd 1 g S0 S → v = q_w g S → post y S) : wX5_enterLater (g 0 5 0) S post := by
  unfold wX5_enterLater; unfold fX5_enterLater at h
  intro y1 q
  replace h := q_ltw h q
  intro T2 q
  obtain ⟨R, q⟩ := q_wI R q rfl rfl
  replace h := q_ltw h q
  exact q_fin h kk R
def fX5_leaveLater (x1 : Int32) (S : q_V) : Option q_V :=
  q_lt (q_si S 1010 x1) (fun T1 =>
  some T1)
theorem b_X5_leaveLater {g : q_G} {S0 : kp_S} {x1 : Int32} {S : kp_S} {post : kp_S → Prop} {v : q_V} (R : q_Gd 1 g S0 S)  (h : fX5_leaveLater x1 (q_w g S) = some v) (kk : ∀ S, q_Gd 1 g S0 S → v = q_w g S → post S) : wX5_leaveLater (g 0 5 0) x1 S post := by
  unfold wX5_leaveLater; unfold fX5_leaveLater at h
  intro T1 q
  obtain ⟨R, q⟩ := q_wI R q rfl rfl
  replace h := q_ltw h q
  exact q_finv h kk R
def fX9_isLetter_b17 (x0 : Int32) (xt0 : Int32) (Sn : q_V) : Option (Int32 × q_V) :=
  if ¬ (xt0 = 0 ∨ xt0 = 1) then none else
  some (xt0, Sn)
theorem b_X9_isLetter_b17 {g : q_G} {S0 : kp_S} {x0 : Int32} {xt0 : Int32} {Sn : kp_S} {post : Int32 → kp_S → Prop} {y : Int32} {v : q_V} (R : q_Gd 1 g S0 Sn)  (h : fX9_isLetter_b17 x0 xt0 (q_w g Sn) = some (y, v)) (kk : ∀ S, q_Gd 1 g S0 S → v = q_w g S → post y S) : wX9_isLetter_b17 x0 xt0 Sn post := by
  unfold wX9_isLetter_b17; unfold fX9_isLetter_b17 at h
  obtain ⟨hi, h⟩ := q_in h
  refine ⟨Classical.not_not.mp hi, ?_⟩
  exact q_fin h kk R
def fX9_isLetter_b16 (x0 : Int32) (Sn : q_V) : Option (Int32 × q_V) :=
  fX9_isLetter_b17 x0 0 Sn
theorem b_X9_isLetter_b16 {g : q_G} {S0 : kp_S} {x0 : Int32} {Sn : kp_S} {post : Int32 → kp_S → Prop} {y : Int32} {v : q_V} (R : q_Gd 1 g S0 Sn)  (h : fX9_isLetter_b16 x0 (q_w g Sn) = some (y, v)) (kk : ∀ S, q_Gd 1 g S0 S → v = q_w g S → post y S) : wX9_isLetter_b16 x0 Sn post := by
  unfold wX9_isLetter_b16; unfold fX9_isLetter_b16 at h
  exact b_X9_isLetter_b17 R h kk
def fX9_isLetter (x0 : Int32) (S : q_V) : Option (Int32 × q_V) :=
  if x0 < 97 then
  fX9_isLetter_b16 x0 S
  else
  if 122 < x0 then
  fX9_isLetter_b16 x0 S
  else
  fX9_isLetter_b17 x0 1 S
theorem b_X9_isLetter {g : q_G} {S0 : kp_S} {x0 : Int32} {S : kp_S} {post : Int32 → kp_S → Prop} {y : Int32} {v : q_V} (R : q_Gd 1 g S0 S)  (h : fX9_isLetter x0 (q_w g S) = some (y, v)) (kk : ∀ S, q_Gd 1 g S0 S → v = q_w g S → post y S) : wX9_isLetter x0 S post := by
  unfold wX9_isLetter; unfold fX9_isLetter at h
  refine ⟨fun c => ?_, fun c => ?_⟩
  · replace h := q_ifp h c
    exact b_X9_isLetter_b16 R h kk
  · replace h := q_ifn h c
    refine ⟨fun c => ?_, fun c => ?_⟩
    · replace h := q_ifp h c
      exact b_X9_isLetter_b16 R h kk
    · replace h := q_ifn h c
      exact b_X9_isLetter_b17 R h kk
def fX9_isDigit_b17 (x0 : Int32) (xt0 : Int32) (Sn : q_V) : Option (Int32 × q_V) :=
  if ¬ (xt0 = 0 ∨ xt0 = 1) then none else
  some (xt0, Sn)
theorem b_X9_isDigit_b17 {g : q_G} {S0 : kp_S} {x0 : Int32} {xt0 : Int32} {Sn : kp_S} {post : Int32 → kp_S → Prop} {y : Int32} {v : q_V} (R : q_Gd 1 g S0 Sn)  (h : fX9_isDigit_b17 x0 xt0 (q_w g Sn) = some (y, v)) (kk : ∀ S, q_Gd 1 g S0 S → v = q_w g S → post y S) : wX9_isDigit_b17 x0 xt0 Sn post := by
  unfold wX9_isDigit_b17; unfold fX9_isDigit_b17 at h
  obtain ⟨hi, h⟩ := q_in h
  refine ⟨Classical.not_not.mp hi, ?_⟩
  exact q_fin h kk R
def fX9_isDigit_b16 (x0 : Int32) (Sn : q_V) : Option (Int32 × q_V) :=
  fX9_isDigit_b17 x0 0 Sn
theorem b_X9_isDigit_b16 {g : q_G} {S0 : kp_S} {x0 : Int32} {Sn : kp_S} {post : Int32 → kp_S → Prop} {y : Int32} {v : q_V} (R : q_Gd 1 g S0 Sn)  (h : fX9_isDigit_b16 x0 (q_w g Sn) = some (y, v)) (kk : ∀ S, q_Gd 1 g S0 S → v = q_w g S → post y S) : wX9_isDigit_b16 x0 Sn post := by
  unfold wX9_isDigit_b16; unfold fX9_isDigit_b16 at h
  exact b_X9_isDigit_b17 R h kk
def fX9_isDigit (x0 : Int32) (S : q_V) : Option (Int32 × q_V) :=
  if x0 < 48 then
  fX9_isDigit_b16 x0 S
  else
  if 57 < x0 then
  fX9_isDigit_b16 x0 S
  else
  fX9_isDigit_b17 x0 1 S
theorem b_X9_isDigit {g : q_G} {S0 : kp_S} {x0 : Int32} {S : kp_S} {post : Int32 → kp_S → Prop} {y : Int32} {v : q_V} (R : q_Gd 1 g S0 S)  (h : fX9_isDigit x0 (q_w g S) = some (y, v)) (kk : ∀ S, q_Gd 1 g S0 S → v = q_w g S → post y S) : wX9_isDigit x0 S post := by
  unfold wX9_isDigit; unfold fX9_isDigit at h
  refine ⟨fun c => ?_, fun c => ?_⟩
  · replace h := q_ifp h c
    exact b_X9_isDigit_b16 R h kk
  · replace h := q_ifn h c
    refine ⟨fun c => ?_, fun c => ?_⟩
    · replace h := q_ifp h c
      exact b_X9_isDigit_b16 R h kk
    · replace h := q_ifn h c
      exact b_X9_isDigit_b17 R h kk
def fX9_byteAt_b31 (x1 : Int32) (xt0 : Int32) (Sn : q_V) : Option (Int32 × q_V) :=
  some (xt0, Sn)
theorem b_X9_byteAt_b31 {g : q_G} {S0 : kp_S} {x1 : Int32} {xt0 : Int32} {Sn : kp_S} {post : Int32 → kp_S → Prop} {y : Int32} {v : q_V} (R : q_Gd 1 g S0 Sn)  (h : fX9_byteAt_b31 x1 xt0 (q_w g Sn) = some (y, v)) (kk : ∀ S, q_Gd 1 g S0 S → v = q_w g S → post y S) : wX9_byteAt_b31 (g 0 9 0) x1 xt0 Sn post := by
  unfold wX9_byteAt_b31; unfold fX9_byteAt_b31 at h
  exact q_fin h kk R
def fX9_byteAt_b30 (x1 : Int32) (Sn : q_V) : Option (Int32 × q_V) :=
  fX9_byteAt_b31 x1 0 Sn
theorem b_X9_byteAt_b30 {g : q_G} {S0 : kp_S} {x1 : Int32} {Sn : kp_S} {post : Int32 → kp_S → Prop} {y : Int32} {v : q_V} (R : q_Gd 1 g S0 Sn)  (h : fX9_byteAt_b30 x1 (q_w g Sn) = some (y, v)) (kk : ∀ S, q_Gd 1 g S0 S → v = q_w g S → post y S) : wX9_byteAt_b30 (g 0 9 0) x1 Sn post := by
  unfold wX9_byteAt_b30; unfold fX9_byteAt_b30 at h
  exact b_X9_byteAt_b31 R h kk
def fX9_byteAt (x1 : Int32) (S : q_V) : Option (Int32 × q_V) :=
  if x1 < 0 then
  fX9_byteAt_b30 x1 S
  else
  if (q_i S 1802) ≤ x1 then
  fX9_byteAt_b30 x1 S
  else
  if (3000) ≤ x1 then
  fX9_byteAt_b30 x1 S
  else
  if (x1) < 0 ∨ 3000 ≤ (x1).toNatClampNeg then none else
  fX9_byteAt_b31 x1 ((q_a S 2200 x1.toNatClampNeg)) S
theorem b_X9_byteAt {g : q_G} {S0 : kp_S} {x1 : Int32} {S : kp_S} {post : Int32 → kp_S → Prop} {y : Int32} {v : q_V} (R : q_Gd 1 g S0 S)  (h : fX9_byteAt x1 (q_w g S) = some (y, v)) (kk : ∀ S, q_Gd 1 g S0 S → v = q_w g S → post y S) : wX9_byteAt (g 0 9 0) x1 S post := by
  unfold wX9_byteAt; unfold fX9_byteAt at h
  refine ⟨fun c => ?_, fun c => ?_⟩
  · replace h := q_ifp h c
    exact b_X9_byteAt_b30 R h kk
  · replace h := q_ifn h c
    refine ⟨fun c => ?_, fun c => ?_⟩
    · replace h := q_ifp h c
      exact b_X9_byteAt_b30 R h kk
    · replace h := q_ifn h c
      refine ⟨_, q_p1800 R, ?_⟩
      rw [q_l2200 R]
      refine ⟨fun c => ?_, fun c => ?_⟩
      · replace h := q_ifp h c
        exact b_X9_byteAt_b30 R h kk
      · replace h := q_ifn h c
        obtain ⟨hi, h⟩ := q_in h
        refine ⟨hi, ?_⟩
        exact b_X9_byteAt_b31 R h kk
def fX9_passBlanks_b55 (xn1 : Int32) (K2 : Int32 → q_V → Option q_V) (Sn : q_V) : Option q_V :=
  q_lt (q_si Sn 1803 (((q_i Sn 1803) + 1))) (fun T1001 =>
  K2 xn1 T1001)
theorem b_X9_passBlanks_b55 {g : q_G} {S0 : kp_S} {xn1 : Int32} {K2f : Int32 → q_V → Option q_V} {K2 : Int32 → kp_S → Prop} {Sn : kp_S} {post : kp_S → Prop} {v : q_V} (R : q_Gd 1 g S0 Sn) (hK2 : ∀ (x0 : Int32) (S : kp_S), q_Gd 1 g S0 S → K2f x0 (q_w g S) = some v → K2 x0 S) (h : fX9_passBlanks_b55 xn1 K2f (q_w g Sn) = some v) (kk : ∀ S, q_Gd 1 g S0 S → v = q_w g S → post S) : wX9_passBlanks_b55 (g 0 9 0) xn1 K2 Sn post := by
  unfold wX9_passBlanks_b55; unfold fX9_passBlanks_b55 at h
  intro T1001 q
  obtain ⟨R, q⟩ := q_wI R q rfl rfl
  replace h := q_ltw h q
  exact hK2 _ _ R h
def fX9_passBlanks_L2  : Nat → Int32 → q_V → Option q_V
  | 0, _, _ => none
  | n + 1, xn1, Sn =>
  if (q_i Sn 1802) ≤ (q_i Sn 1803) then
  some Sn
  else
  q_bd (fX9_byteAt ((q_i Sn 1803)) Sn) (fun y2002 T2001 =>
  if y2002 = 35 then
  fX9_passBlanks_b55 1 (fun xn1_ S_ => fX9_passBlanks_L2 n xn1_ S_) T2001
  else
  if y2002 = 10 then
  fX9_passBlanks_b55 0 (fun xn1_ S_ => fX9_passBlanks_L2 n xn1_ S_) T2001
  else
  if y2002 = 32 then
  fX9_passBlanks_b55 xn1 (fun xn1_ S_ => fX9_passBlanks_L2 n xn1_ S_) T2001
  else
  if xn1 = 0 then
  some T2001
  else
  fX9_passBlanks_b55 xn1 (fun xn1_ S_ => fX9_passBlanks_L2 n xn1_ S_) T2001)
theorem b_X9_passBlanks_L2 {g : q_G} {S0 : kp_S} {post : kp_S → Prop} {v : q_V}  (kk : ∀ S, q_Gd 1 g S0 S → v = q_w g S → post S) : ∀ (n : Nat) (xn1 : Int32) (Sn : kp_S), q_Gd 1 g S0 Sn → fX9_passBlanks_L2  n xn1 (q_w g Sn) = some v → wX9_passBlanks_L2 (g 0 9 0) post n xn1 Sn := by
  intro n
  induction n with
  | zero => intro xn1 Sn _ h; cases h
  | succ n ih =>
    intro xn1 Sn R h
    unfold wX9_passBlanks_L2; unfold fX9_passBlanks_L2 at h
    refine ⟨fun c => ?_, fun c => ?_⟩
    · replace h := q_ifp h c
      exact q_finv h kk R
    · replace h := q_ifn h c
      obtain ⟨y2002, v1, h1, h⟩ := q_bdi h
      refine b_X9_byteAt R h1 (fun T2001 R q => ?_)
      subst q
      refine ⟨fun c => ?_, fun c => ?_⟩
      · replace h := q_ifn h c
        refine ⟨fun c => ?_, fun c => ?_⟩
        · replace h := q_ifn h c
          refine ⟨fun c => ?_, fun c => ?_⟩
          · replace h := q_ifp h c
            exact b_X9_passBlanks_b55 R (fun xn1_ S_ R h => ih xn1_ S_ R h) h kk
          · replace h := q_ifn h c
            refine ⟨fun c => ?_, fun c => ?_⟩
            · replace h := q_ifn h c
              exact b_X9_passBlanks_b55 R (fun xn1_ S_ R h => ih xn1_ S_ R h) h kk
            · replace h := q_ifp h c
              exact q_finv h kk R
        · replace h := q_ifp h c
          exact b_X9_passBlanks_b55 R (fun xn1_ S_ R h => ih xn1_ S_ R h) h kk
      · replace h := q_ifp h c
        exact b_X9_passBlanks_b55 R (fun xn1_ S_ R h => ih xn1_ S_ R h) h kk
def fX9_passBlanks (S : q_V) : Option q_V :=
  fX9_passBlanks_L2 q_N 0 S
theorem b_X9_passBlanks {g : q_G} {S0 : kp_S} {S : kp_S} {post : kp_S → Prop} {v : q_V} (R : q_Gd 1 g S0 S)  (h : fX9_passBlanks (q_w g S) = some v) (kk : ∀ S, q_Gd 1 g S0 S → v = q_w g S → post S) : wX9_passBlanks (g 0 9 0) S post := by
  unfold wX9_passBlanks; unfold fX9_passBlanks at h
  exact ⟨q_N, b_X9_passBlanks_L2 kk q_N _ _ R h⟩
def fX9_takeWord_L105  : Nat → Int64 → Int32 → q_V → Option q_V
  | 0, _, _, _ => none
  | n + 1, wn1, xn3, Sn =>
  if (40) ≤ xn3 then
  some Sn
  else
  if (xn3) < 0 ∨ 40 ≤ (xn3).toNatClampNeg then none else
  if (lg_cmp (q_b Sn 1801 xn3.toNatClampNeg) wn1) = 0 then
  q_lt (q_si Sn 1805 ((300 + xn3))) (fun T1003 =>
  some T1003)
  else
  q_lt (xn3 + 1 : Int32) (fun y1002 =>
  fX9_takeWord_L105 n wn1 y1002 Sn)
theorem b_X9_takeWord_L105 {g : q_G} {S0 : kp_S} {post : kp_S → Prop} {v : q_V}  (kk : ∀ S, q_Gd 1 g S0 S → v = q_w g S → post S) : ∀ (n : Nat) (wn1 : Int64) (xn3 : Int32) (Sn : kp_S), q_Gd 1 g S0 Sn → fX9_takeWord_L105  n wn1 xn3 (q_w g Sn) = some v → wX9_takeWord_L105 (g 0 9 0) post n wn1 xn3 Sn := by
  intro n
  induction n with
  | zero => intro wn1 xn3 Sn _ h; cases h
  | succ n ih =>
    intro wn1 xn3 Sn R h
    unfold wX9_takeWord_L105; unfold fX9_takeWord_L105 at h
    refine ⟨_, q_p1801 R, ?_⟩
    rw [q_l1801 R]
    refine ⟨fun c => ?_, fun c => ?_⟩
    · replace h := q_ifp h c
      exact q_finv h kk R
    · replace h := q_ifn h c
      obtain ⟨hi, h⟩ := q_in h
      refine ⟨hi, ?_⟩
      refine ⟨fun c => ?_, fun c => ?_⟩
      · replace h := q_ifn h c
        intro y1002 q
        replace h := q_ltw h q
        exact ih _ _ _ R h
      · replace h := q_ifp h c
        intro T1003 q
        obtain ⟨R, q⟩ := q_wI R q rfl rfl
        replace h := q_ltw h q
        exact q_finv h kk R
def fX9_takeWord_b69 (wn1 : Int64) (Sn : q_V) : Option q_V :=
  if ((q_i Sn 1803) - (q_i Sn 1806)) ≤ 8 then
  q_lt (q_sj Sn 1808 wn1) (fun T2001 =>
  q_lt (q_si T2001 1805 259) (fun T2002 =>
  fX9_takeWord_L105 q_N wn1 0 T2002))
  else
  q_lt (q_si Sn 1805 262) (fun T2003 =>
  some T2003)
theorem b_X9_takeWord_b69 {g : q_G} {S0 : kp_S} {wn1 : Int64} {Sn : kp_S} {post : kp_S → Prop} {v : q_V} (R : q_Gd 1 g S0 Sn)  (h : fX9_takeWord_b69 wn1 (q_w g Sn) = some v) (kk : ∀ S, q_Gd 1 g S0 S → v = q_w g S → post S) : wX9_takeWord_b69 (g 0 9 0) wn1 Sn post := by
  unfold wX9_takeWord_b69; unfold fX9_takeWord_b69 at h
  refine ⟨fun c => ?_, fun c => ?_⟩
  · replace h := q_ifp h c
    intro T2001 q
    obtain ⟨R, q⟩ := q_wJ R q rfl rfl
    replace h := q_ltw h q
    intro T2002 q
    obtain ⟨R, q⟩ := q_wI R q rfl rfl
    replace h := q_ltw h q
    exact ⟨q_N, b_X9_takeWord_L105 kk q_N _ _ _ R h⟩
  · replace h := q_ifn h c
    intro T2003 q
    obtain ⟨R, q⟩ := q_wI R q rfl rfl
    replace h := q_ltw h q
    exact q_finv h kk R
def fX9_takeWord_b41 (wn1 : Int64) (K2 : Int64 → q_V → Option q_V) (Sn : q_V) : Option q_V :=
  q_bd (fX9_byteAt ((q_i Sn 1803)) Sn) (fun y3002 T3001 =>
  q_lt ((((wn1 : Int64) <<< ((8 : Int32).toInt64 &&& 63)) ||| ((y3002 : Int32).toInt64)) : Int64) (fun z3003 =>
  q_lt (q_si T3001 1803 (((q_i T3001 1803) + 1))) (fun T3004 =>
  K2 z3003 T3004)))
theorem b_X9_takeWord_b41 {g : q_G} {S0 : kp_S} {wn1 : Int64} {K2f : Int64 → q_V → Option q_V} {K2 : Int64 → kp_S → Prop} {Sn : kp_S} {post : kp_S → Prop} {v : q_V} (R : q_Gd 1 g S0 Sn) (hK2 : ∀ (x0 : Int64) (S : kp_S), q_Gd 1 g S0 S → K2f x0 (q_w g S) = some v → K2 x0 S) (h : fX9_takeWord_b41 wn1 K2f (q_w g Sn) = some v) (kk : ∀ S, q_Gd 1 g S0 S → v = q_w g S → post S) : wX9_takeWord_b41 (g 0 9 0) wn1 K2 Sn post := by
  unfold wX9_takeWord_b41; unfold fX9_takeWord_b41 at h
  obtain ⟨y3002, v1, h1, h⟩ := q_bdi h
  refine b_X9_byteAt R h1 (fun T3001 R q => ?_)
  subst q
  intro z3003 q
  replace h := q_ltw h q
  intro T3004 q
  obtain ⟨R, q⟩ := q_wI R q rfl rfl
  replace h := q_ltw h q
  exact hK2 _ _ R h
def fX9_takeWord_L2  : Nat → Int64 → q_V → Option q_V
  | 0, _, _ => none
  | n + 1, wn1, Sn =>
  if (q_i Sn 1802) ≤ (q_i Sn 1803) then
  fX9_takeWord_b69 wn1 Sn
  else
  q_bd (fX9_byteAt ((q_i Sn 1803)) Sn) (fun y4002 T4001 =>
  q_bd (fX9_isLetter y4002 T4001) (fun y4004 T4003 =>
  if y4004 = 0 then
  q_bd (fX9_byteAt ((q_i T4003 1803)) T4003) (fun y4006 T4005 =>
  q_bd (fX9_isDigit y4006 T4005) (fun y4008 T4007 =>
  if y4008 = 0 then
  fX9_takeWord_b69 wn1 T4007
  else
  fX9_takeWord_b41 wn1 (fun wn1_ S_ => fX9_takeWord_L2 n wn1_ S_) T4007))
  else
  fX9_takeWord_b41 wn1 (fun wn1_ S_ => fX9_takeWord_L2 n wn1_ S_) T4003))
theorem b_X9_takeWord_L2 {g : q_G} {S0 : kp_S} {post : kp_S → Prop} {v : q_V}  (kk : ∀ S, q_Gd 1 g S0 S → v = q_w g S → post S) : ∀ (n : Nat) (wn1 : Int64) (Sn : kp_S), q_Gd 1 g S0 Sn → fX9_takeWord_L2  n wn1 (q_w g Sn) = some v → wX9_takeWord_L2 (g 0 9 0) post n wn1 Sn := by
  intro n
  induction n with
  | zero => intro wn1 Sn _ h; cases h
  | succ n ih =>
    intro wn1 Sn R h
    unfold wX9_takeWord_L2; unfold fX9_takeWord_L2 at h
    refine ⟨fun c => ?_, fun c => ?_⟩
    · replace h := q_ifp h c
      exact b_X9_takeWord_b69 R h kk
    · replace h := q_ifn h c
      obtain ⟨y4002, v1, h1, h⟩ := q_bdi h
      refine b_X9_byteAt R h1 (fun T4001 R q => ?_)
      subst q
      obtain ⟨y4004, v1, h1, h⟩ := q_bdi h
      refine b_X9_isLetter R h1 (fun T4003 R q => ?_)
      subst q
      refine ⟨fun c => ?_, fun c => ?_⟩
      · replace h := q_ifn h c
        exact b_X9_takeWord_b41 R (fun wn1_ S_ R h => ih wn1_ S_ R h) h kk
      · replace h := q_ifp h c
        obtain ⟨y4006, v1, h1, h⟩ := q_bdi h
        refine b_X9_byteAt R h1 (fun T4005 R q => ?_)
        subst q
        obtain ⟨y4008, v1, h1, h⟩ := q_bdi h
        refine b_X9_isDigit R h1 (fun T4007 R q => ?_)
        subst q
        refine ⟨fun c => ?_, fun c => ?_⟩
        · replace h := q_ifp h c
          exact b_X9_takeWord_b69 R h kk
        · replace h := q_ifn h c
          exact b_X9_takeWord_b41 R (fun wn1_ S_ R h => ih wn1_ S_ R h) h kk
def fX9_takeWord (S : q_V) : Option q_V :=
  fX9_takeWord_L2 q_N 0 S
theorem b_X9_takeWord {g : q_G} {S0 : kp_S} {S : kp_S} {post : kp_S → Prop} {v : q_V} (R : q_Gd 1 g S0 S)  (h : fX9_takeWord (q_w g S) = some v) (kk : ∀ S, q_Gd 1 g S0 S → v = q_w g S → post S) : wX9_takeWord (g 0 9 0) S post := by
  unfold wX9_takeWord; unfold fX9_takeWord at h
  exact ⟨q_N, b_X9_takeWord_L2 kk q_N _ _ R h⟩
def fX9_takeNumber_b90 (xt0 : Int32) (Sn : q_V) : Option q_V :=
  q_lt (q_si Sn 1805 xt0) (fun T1001 =>
  some T1001)
theorem b_X9_takeNumber_b90 {g : q_G} {S0 : kp_S} {xt0 : Int32} {Sn : kp_S} {post : kp_S → Prop} {v : q_V} (R : q_Gd 1 g S0 Sn)  (h : fX9_takeNumber_b90 xt0 (q_w g Sn) = some v) (kk : ∀ S, q_Gd 1 g S0 S → v = q_w g S → post S) : wX9_takeNumber_b90 (g 0 9 0) xt0 (g 0 9 0) Sn post := by
  unfold wX9_takeNumber_b90; unfold fX9_takeNumber_b90 at h
  intro T1001 q
  obtain ⟨R, q⟩ := q_wI R q rfl rfl
  replace h := q_ltw h q
  exact q_finv h kk R
def fX9_takeNumber_b66 (Sn : q_V) : Option q_V :=
  if ((q_i Sn 1803) - (q_i Sn 1806)) ≤ 9 then
  fX9_takeNumber_b90 260 Sn
  else
  fX9_takeNumber_b90 262 Sn
theorem b_X9_takeNumber_b66 {g : q_G} {S0 : kp_S} {Sn : kp_S} {post : kp_S → Prop} {v : q_V} (R : q_Gd 1 g S0 Sn)  (h : fX9_takeNumber_b66 (q_w g Sn) = some v) (kk : ∀ S, q_Gd 1 g S0 S → v = q_w g S → post S) : wX9_takeNumber_b66 (g 0 9 0) Sn post := by
  unfold wX9_takeNumber_b66; unfold fX9_takeNumber_b66 at h
  refine ⟨fun c => ?_, fun c => ?_⟩
  · replace h := q_ifp h c
    exact b_X9_takeNumber_b90 R h kk
  · replace h := q_ifn h c
    exact b_X9_takeNumber_b90 R h kk
def fX9_takeNumber_L5  : Nat → q_V → Option q_V
  | 0, _ => none
  | n + 1, Sn =>
  if (q_i Sn 1802) ≤ (q_i Sn 1803) then
  fX9_takeNumber_b66 Sn
  else
  q_bd (fX9_byteAt ((q_i Sn 1803)) Sn) (fun y3002 T3001 =>
  q_bd (fX9_isDigit y3002 T3001) (fun y3004 T3003 =>
  if y3004 = 0 then
  fX9_takeNumber_b66 T3003
  else
  q_bd (fX9_byteAt ((q_i T3003 1803)) T3003) (fun y3006 T3005 =>
  q_lt (q_si T3005 1807 (((((q_i T3003 1807) * 10) + y3006) - 48))) (fun T3007 =>
  q_lt (q_si T3007 1803 (((q_i T3007 1803) + 1))) (fun T3008 =>
  fX9_takeNumber_L5 n T3008)))))
theorem b_X9_takeNumber_L5 {g : q_G} {S0 : kp_S} {post : kp_S → Prop} {v : q_V}  (kk : ∀ S, q_Gd 1 g S0 S → v = q_w g S → post S) : ∀ (n : Nat) (Sn : kp_S), q_Gd 1 g S0 Sn → fX9_takeNumber_L5  n  (q_w g Sn) = some v → wX9_takeNumber_L5 (g 0 9 0) post n  Sn := by
  intro n
  induction n with
  | zero => intro Sn _ h; cases h
  | succ n ih =>
    intro Sn R h
    unfold wX9_takeNumber_L5; unfold fX9_takeNumber_L5 at h
    refine ⟨fun c => ?_, fun c => ?_⟩
    · replace h := q_ifp h c
      exact b_X9_takeNumber_b66 R h kk
    · replace h := q_ifn h c
      obtain ⟨y3002, v1, h1, h⟩ := q_bdi h
      refine b_X9_byteAt R h1 (fun T3001 R q => ?_)
      subst q
      obtain ⟨y3004, v1, h1, h⟩ := q_bdi h
      refine b_X9_isDigit R h1 (fun T3003 R q => ?_)
      subst q
      refine ⟨fun c => ?_, fun c => ?_⟩
      · replace h := q_ifp h c
        exact b_X9_takeNumber_b66 R h kk
      · replace h := q_ifn h c
        obtain ⟨y3006, v1, h1, h⟩ := q_bdi h
        refine b_X9_byteAt R h1 (fun T3005 R q => ?_)
        subst q
        intro T3007 q
        obtain ⟨R, q⟩ := q_wI R q rfl rfl
        replace h := q_ltw h q
        intro T3008 q
        obtain ⟨R, q⟩ := q_wI R q rfl rfl
        replace h := q_ltw h q
        exact ih _ R h
def fX9_takeNumber (S : q_V) : Option q_V :=
  q_lt (q_si S 1807 0) (fun T1 =>
  fX9_takeNumber_L5 q_N T1)
theorem b_X9_takeNumber {g : q_G} {S0 : kp_S} {S : kp_S} {post : kp_S → Prop} {v : q_V} (R : q_Gd 1 g S0 S)  (h : fX9_takeNumber (q_w g S) = some v) (kk : ∀ S, q_Gd 1 g S0 S → v = q_w g S → post S) : wX9_takeNumber (g 0 9 0) S post := by
  unfold wX9_takeNumber; unfold fX9_takeNumber at h
  intro T1 q
  obtain ⟨R, q⟩ := q_wI R q rfl rfl
  replace h := q_ltw h q
  exact ⟨q_N, b_X9_takeNumber_L5 kk q_N _ R h⟩
def fX9_takeSign_b116 (x1 : Int32) (Sn : q_V) : Option q_V :=
  some Sn
theorem b_X9_takeSign_b116 {g : q_G} {S0 : kp_S} {x1 : Int32} {Sn : kp_S} {post : kp_S → Prop} {v : q_V} (R : q_Gd 1 g S0 Sn)  (h : fX9_takeSign_b116 x1 (q_w g Sn) = some v) (kk : ∀ S, q_Gd 1 g S0 S → v = q_w g S → post S) : wX9_takeSign_b116 (g 0 9 0) x1 Sn post := by
  unfold wX9_takeSign_b116; unfold fX9_takeSign_b116 at h
  exact q_finv h kk R
def fX9_takeSign_b113 (x1 : Int32) (xt0 : Int32) (Sn : q_V) : Option q_V :=
  q_lt (q_si Sn 1805 xt0) (fun T2001 =>
  fX9_takeSign_b116 x1 T2001)
theorem b_X9_takeSign_b113 {g : q_G} {S0 : kp_S} {x1 : Int32} {xt0 : Int32} {Sn : kp_S} {post : kp_S → Prop} {v : q_V} (R : q_Gd 1 g S0 Sn)  (h : fX9_takeSign_b113 x1 xt0 (q_w g Sn) = some v) (kk : ∀ S, q_Gd 1 g S0 S → v = q_w g S → post S) : wX9_takeSign_b113 (g 0 9 0) x1 xt0 (g 0 9 0) Sn post := by
  unfold wX9_takeSign_b113; unfold fX9_takeSign_b113 at h
  intro T2001 q
  obtain ⟨R, q⟩ := q_wI R q rfl rfl
  replace h := q_ltw h q
  exact b_X9_takeSign_b116 R h kk
def fX9_takeSign_b95 (x1 : Int32) (Sn : q_V) : Option q_V :=
  q_bd (fJ0_indexOf_0f7a4 1 ((((x1 : Int32).toUInt32 % 65536).toInt32)) Sn) (fun y3002 T3001 =>
  if y3002 < 0 then
  fX9_takeSign_b113 x1 262 T3001
  else
  fX9_takeSign_b113 x1 x1 T3001)
theorem b_X9_takeSign_b95 {g : q_G} {S0 : kp_S} {x1 : Int32} {Sn : kp_S} {post : kp_S → Prop} {v : q_V} (R : q_Gd 1 g S0 Sn)  (h : fX9_takeSign_b95 x1 (q_w g Sn) = some v) (kk : ∀ S, q_Gd 1 g S0 S → v = q_w g S → post S) : wX9_takeSign_b95 (g 0 9 0) x1 Sn post := by
  unfold wX9_takeSign_b95; unfold fX9_takeSign_b95 at h
  obtain ⟨y3002, v1, h1, h⟩ := q_bdi h
  refine b_J0_indexOf_0f7a4 R h1 (fun T3001 R q => ?_)
  subst q
  refine ⟨fun c => ?_, fun c => ?_⟩
  · replace h := q_ifp h c
    exact b_X9_takeSign_b113 R h kk
  · replace h := q_ifn h c
    exact b_X9_takeSign_b113 R h kk
def fX9_takeSign_b89 (x1 : Int32) (xt0 : Int32) (Sn : q_V) : Option q_V :=
  q_lt (q_si Sn 1805 xt0) (fun T4001 =>
  fX9_takeSign_b116 x1 T4001)
theorem b_X9_takeSign_b89 {g : q_G} {S0 : kp_S} {x1 : Int32} {xt0 : Int32} {Sn : kp_S} {post : kp_S → Prop} {v : q_V} (R : q_Gd 1 g S0 Sn)  (h : fX9_takeSign_b89 x1 xt0 (q_w g Sn) = some v) (kk : ∀ S, q_Gd 1 g S0 S → v = q_w g S → post S) : wX9_takeSign_b89 (g 0 9 0) x1 xt0 (g 0 9 0) Sn post := by
  unfold wX9_takeSign_b89; unfold fX9_takeSign_b89 at h
  intro T4001 q
  obtain ⟨R, q⟩ := q_wI R q rfl rfl
  replace h := q_ltw h q
  exact b_X9_takeSign_b116 R h kk
def fX9_takeSign_b51 (x1 : Int32) (Sn : q_V) : Option q_V :=
  q_lt (q_si Sn 1803 (((q_i Sn 1803) + 1))) (fun T5001 =>
  if x1 = 61 then
  fX9_takeSign_b89 x1 256 T5001
  else
  if x1 = 33 then
  fX9_takeSign_b89 x1 257 T5001
  else
  fX9_takeSign_b89 x1 258 T5001)
theorem b_X9_takeSign_b51 {g : q_G} {S0 : kp_S} {x1 : Int32} {Sn : kp_S} {post : kp_S → Prop} {v : q_V} (R : q_Gd 1 g S0 Sn)  (h : fX9_takeSign_b51 x1 (q_w g Sn) = some v) (kk : ∀ S, q_Gd 1 g S0 S → v = q_w g S → post S) : wX9_takeSign_b51 (g 0 9 0) x1 Sn post := by
  unfold wX9_takeSign_b51; unfold fX9_takeSign_b51 at h
  intro T5001 q
  obtain ⟨R, q⟩ := q_wI R q rfl rfl
  replace h := q_ltw h q
  refine ⟨fun c => ?_, fun c => ?_⟩
  · replace h := q_ifn h c
    refine ⟨fun c => ?_, fun c => ?_⟩
    · replace h := q_ifn h c
      exact b_X9_takeSign_b89 R h kk
    · replace h := q_ifp h c
      exact b_X9_takeSign_b89 R h kk
  · replace h := q_ifp h c
    exact b_X9_takeSign_b89 R h kk
def fX9_takeSign_b28 (x1 : Int32) (xt0 : Int32) (Sn : q_V) : Option q_V :=
  if xt0 = 0 then
  fX9_takeSign_b95 x1 Sn
  else
  if x1 = 61 then
  fX9_takeSign_b51 x1 Sn
  else
  if x1 = 33 then
  fX9_takeSign_b51 x1 Sn
  else
  if x1 = 60 then
  fX9_takeSign_b51 x1 Sn
  else
  fX9_takeSign_b95 x1 Sn
theorem b_X9_takeSign_b28 {g : q_G} {S0 : kp_S} {x1 : Int32} {xt0 : Int32} {Sn : kp_S} {post : kp_S → Prop} {v : q_V} (R : q_Gd 1 g S0 Sn)  (h : fX9_takeSign_b28 x1 xt0 (q_w g Sn) = some v) (kk : ∀ S, q_Gd 1 g S0 S → v = q_w g S → post S) : wX9_takeSign_b28 (g 0 9 0) x1 xt0 Sn post := by
  unfold wX9_takeSign_b28; unfold fX9_takeSign_b28 at h
  refine ⟨fun c => ?_, fun c => ?_⟩
  · replace h := q_ifp h c
    exact b_X9_takeSign_b95 R h kk
  · replace h := q_ifn h c
    refine ⟨fun c => ?_, fun c => ?_⟩
    · replace h := q_ifp h c
      exact b_X9_takeSign_b51 R h kk
    · replace h := q_ifn h c
      refine ⟨fun c => ?_, fun c => ?_⟩
      · replace h := q_ifp h c
        exact b_X9_takeSign_b51 R h kk
      · replace h := q_ifn h c
        refine ⟨fun c => ?_, fun c => ?_⟩
        · replace h := q_ifn h c
          exact b_X9_takeSign_b95 R h kk
        · replace h := q_ifp h c
          exact b_X9_takeSign_b51 R h kk
def fX9_takeSign (x1 : Int32) (S : q_V) : Option q_V :=
  q_lt (q_si S 1803 (((q_i S 1803) + 1))) (fun T1 =>
  q_bd (fX9_byteAt ((q_i T1 1803)) T1) (fun y3 T2 =>
  if y3 = 61 then
  fX9_takeSign_b28 x1 1 T2
  else
  fX9_takeSign_b28 x1 0 T2))
theorem b_X9_takeSign {g : q_G} {S0 : kp_S} {x1 : Int32} {S : kp_S} {post : kp_S → Prop} {v : q_V} (R : q_Gd 1 g S0 S)  (h : fX9_takeSign x1 (q_w g S) = some v) (kk : ∀ S, q_Gd 1 g S0 S → v = q_w g S → post S) : wX9_takeSign (g 0 9 0) x1 S post := by
  unfold wX9_takeSign; unfold fX9_takeSign at h
  intro T1 q
  obtain ⟨R, q⟩ := q_wI R q rfl rfl
  replace h := q_ltw h q
  obtain ⟨y3, v1, h1, h⟩ := q_bdi h
  refine b_X9_byteAt R h1 (fun T2 R q => ?_)
  subst q
  refine ⟨fun c => ?_, fun c => ?_⟩
  · replace h := q_ifn h c
    exact b_X9_takeSign_b28 R h kk
  · replace h := q_ifp h c
    exact b_X9_takeSign_b28 R h kk
def fX9_advance_b86 (Sn : q_V) : Option q_V :=
  some Sn
theorem b_X9_advance_b86 {g : q_G} {S0 : kp_S} {Sn : kp_S} {post : kp_S → Prop} {v : q_V} (R : q_Gd 1 g S0 Sn)  (h : fX9_advance_b86 (q_w g Sn) = some v) (kk : ∀ S, q_Gd 1 g S0 S → v = q_w g S → post S) : wX9_advance_b86 (g 0 9 0) Sn post := by
  unfold wX9_advance_b86; unfold fX9_advance_b86 at h
  exact q_finv h kk R
def fX9_advance (S : q_V) : Option q_V :=
  if (q_i S 1805) = 263 then
  some S
  else
  q_bv (fX9_passBlanks S) (fun T1 =>
  q_lt (q_si T1 1806 ((q_i T1 1803))) (fun T2 =>
  q_bd (fX9_byteAt ((q_i T2 1803)) T2) (fun y4 T3 =>
  if (q_i T3 1803) < (q_i T3 1802) then
  q_bd (fX9_isLetter y4 T3) (fun y6 T5 =>
  if y6 = 0 then
  q_bd (fX9_isDigit y4 T5) (fun y8 T7 =>
  if y8 = 0 then
  q_bv (fX9_takeSign y4 T7) (fun T9 =>
  fX9_advance_b86 T9)
  else
  q_bv (fX9_takeNumber T7) (fun T10 =>
  fX9_advance_b86 T10))
  else
  q_bv (fX9_takeWord T5) (fun T12 =>
  fX9_advance_b86 T12))
  else
  q_lt (q_si T3 1805 261) (fun T14 =>
  fX9_advance_b86 T14))))
theorem b_X9_advance {g : q_G} {S0 : kp_S} {S : kp_S} {post : kp_S → Prop} {v : q_V} (R : q_Gd 1 g S0 S)  (h : fX9_advance (q_w g S) = some v) (kk : ∀ S, q_Gd 1 g S0 S → v = q_w g S → post S) : wX9_advance (g 0 9 0) S post := by
  unfold wX9_advance; unfold fX9_advance at h
  refine ⟨fun c => ?_, fun c => ?_⟩
  · replace h := q_ifn h c
    obtain ⟨v1, h1, h⟩ := q_bvi h
    refine b_X9_passBlanks R h1 (fun T1 R q => ?_)
    subst q
    intro T2 q
    obtain ⟨R, q⟩ := q_wI R q rfl rfl
    replace h := q_ltw h q
    obtain ⟨y4, v1, h1, h⟩ := q_bdi h
    refine b_X9_byteAt R h1 (fun T3 R q => ?_)
    subst q
    refine ⟨fun c => ?_, fun c => ?_⟩
    · replace h := q_ifp h c
      obtain ⟨y6, v1, h1, h⟩ := q_bdi h
      refine b_X9_isLetter R h1 (fun T5 R q => ?_)
      subst q
      refine ⟨fun c => ?_, fun c => ?_⟩
      · replace h := q_ifp h c
        obtain ⟨y8, v1, h1, h⟩ := q_bdi h
        refine b_X9_isDigit R h1 (fun T7 R q => ?_)
        subst q
        refine ⟨fun c => ?_, fun c => ?_⟩
        · replace h := q_ifp h c
          obtain ⟨v1, h1, h⟩ := q_bvi h
          refine b_X9_takeSign R h1 (fun T9 R q => ?_)
          subst q
          exact b_X9_advance_b86 R h kk
        · replace h := q_ifn h c
          obtain ⟨v1, h1, h⟩ := q_bvi h
          refine b_X9_takeNumber R h1 (fun T10 R q => ?_)
          subst q
          exact b_X9_advance_b86 R h kk
      · replace h := q_ifn h c
        obtain ⟨v1, h1, h⟩ := q_bvi h
        refine b_X9_takeWord R h1 (fun T12 R q => ?_)
        subst q
        exact b_X9_advance_b86 R h kk
    · replace h := q_ifn h c
      intro T14 q
      obtain ⟨R, q⟩ := q_wI R q rfl rfl
      replace h := q_ltw h q
      exact b_X9_advance_b86 R h kk
  · replace h := q_ifp h c
    exact q_finv h kk R
def fX9_start (x1 : Int32) (S : q_V) : Option q_V :=
  q_lt (q_si S 1802 ((if (3000) < x1 then (3000) else x1))) (fun T2 =>
  q_lt (q_si T2 1803 0) (fun T3 =>
  q_lt (q_si T3 1804 0) (fun T4 =>
  q_lt (q_si T4 1809 0) (fun T5 =>
  q_lt (q_si T5 1810 ((- 1))) (fun T6 =>
  q_lt (q_si T6 1805 261) (fun T7 =>
  q_bv (fX9_advance T7) (fun T8 =>
  some T8)))))))
theorem b_X9_start {g : q_G} {S0 : kp_S} {x1 : Int32} {S : kp_S} {post : kp_S → Prop} {v : q_V} (R : q_Gd 1 g S0 S)  (h : fX9_start x1 (q_w g S) = some v) (kk : ∀ S, q_Gd 1 g S0 S → v = q_w g S → post S) : wX9_start (g 0 9 0) x1 S post := by
  unfold wX9_start; unfold fX9_start at h
  refine ⟨_, q_p1800 R, ?_⟩
  rw [q_l2200 R]
  intro T2 q
  obtain ⟨R, q⟩ := q_wI R q rfl rfl
  replace h := q_ltw h q
  intro T3 q
  obtain ⟨R, q⟩ := q_wI R q rfl rfl
  replace h := q_ltw h q
  intro T4 q
  obtain ⟨R, q⟩ := q_wI R q rfl rfl
  replace h := q_ltw h q
  intro T5 q
  obtain ⟨R, q⟩ := q_wI R q rfl rfl
  replace h := q_ltw h q
  intro T6 q
  obtain ⟨R, q⟩ := q_wI R q rfl rfl
  replace h := q_ltw h q
  intro T7 q
  obtain ⟨R, q⟩ := q_wI R q rfl rfl
  replace h := q_ltw h q
  obtain ⟨v1, h1, h⟩ := q_bvi h
  refine b_X9_advance R h1 (fun T8 R q => ?_)
  subst q
  exact q_finv h kk R
def fX9_isStopped_b15 (xt0 : Int32) (Sn : q_V) : Option (Int32 × q_V) :=
  if ¬ (xt0 = 0 ∨ xt0 = 1) then none else
  some (xt0, Sn)
theorem b_X9_isStopped_b15 {g : q_G} {S0 : kp_S} {xt0 : Int32} {Sn : kp_S} {post : Int32 → kp_S → Prop} {y : Int32} {v : q_V} (R : q_Gd 1 g S0 Sn)  (h : fX9_isStopped_b15 xt0 (q_w g Sn) = some (y, v)) (kk : ∀ S, q_Gd 1 g S0 S → v = q_w g S → post y S) : wX9_isStopped_b15 (g 0 9 0) xt0 Sn post := by
  unfold wX9_isStopped_b15; unfold fX9_isStopped_b15 at h
  obtain ⟨hi, h⟩ := q_in h
  refine ⟨Classical.not_not.mp hi, ?_⟩
  exact q_fin h kk R
def fX9_isStopped (S : q_V) : Option (Int32 × q_V) :=
  if (q_i S 1805) = 263 then
  fX9_isStopped_b15 1 S
  else
  fX9_isStopped_b15 0 S
theorem b_X9_isStopped {g : q_G} {S0 : kp_S} {S : kp_S} {post : Int32 → kp_S → Prop} {y : Int32} {v : q_V} (R : q_Gd 1 g S0 S)  (h : fX9_isStopped (q_w g S) = some (y, v)) (kk : ∀ S, q_Gd 1 g S0 S → v = q_w g S → post y S) : wX9_isStopped (g 0 9 0) S post := by
  unfold wX9_isStopped; unfold fX9_isStopped at h
  refine ⟨fun c => ?_, fun c => ?_⟩
  · replace h := q_ifn h c
    exact b_X9_isStopped_b15 R h kk
  · replace h := q_ifp h c
    exact b_X9_isStopped_b15 R h kk
def fX9_stopWith_b20 (x1 : Int32) (Sn : q_V) : Option q_V :=
  q_lt (q_si Sn 1805 263) (fun T1001 =>
  some T1001)
theorem b_X9_stopWith_b20 {g : q_G} {S0 : kp_S} {x1 : Int32} {Sn : kp_S} {post : kp_S → Prop} {v : q_V} (R : q_Gd 1 g S0 Sn)  (h : fX9_stopWith_b20 x1 (q_w g Sn) = some v) (kk : ∀ S, q_Gd 1 g S0 S → v = q_w g S → post S) : wX9_stopWith_b20 (g 0 9 0) x1 Sn post := by
  unfold wX9_stopWith_b20; unfold fX9_stopWith_b20 at h
  intro T1001 q
  obtain ⟨R, q⟩ := q_wI R q rfl rfl
  replace h := q_ltw h q
  exact q_finv h kk R
def fX9_stopWith (x1 : Int32) (S : q_V) : Option q_V :=
  if (q_i S 1809) = 0 then
  q_lt (q_si S 1809 x1) (fun T1 =>
  q_lt (q_si T1 1810 ((q_i T1 1806))) (fun T2 =>
  fX9_stopWith_b20 x1 T2))
  else
  fX9_stopWith_b20 x1 S
theorem b_X9_stopWith {g : q_G} {S0 : kp_S} {x1 : Int32} {S : kp_S} {post : kp_S → Prop} {v : q_V} (R : q_Gd 1 g S0 S)  (h : fX9_stopWith x1 (q_w g S) = some v) (kk : ∀ S, q_Gd 1 g S0 S → v = q_w g S → post S) : wX9_stopWith (g 0 9 0) x1 S post := by
  unfold wX9_stopWith; unfold fX9_stopWith at h
  refine ⟨fun c => ?_, fun c => ?_⟩
  · replace h := q_ifn h c
    exact b_X9_stopWith_b20 R h kk
  · replace h := q_ifp h c
    intro T1 q
    obtain ⟨R, q⟩ := q_wI R q rfl rfl
    replace h := q_ltw h q
    intro T2 q
    obtain ⟨R, q⟩ := q_wI R q rfl rfl
    replace h := q_ltw h q
    exact b_X9_stopWith_b20 R h kk
def fX9_refuse_b16 (xt0 : Int32) (Sn : q_V) : Option q_V :=
  q_bv (fX9_stopWith xt0 Sn) (fun T1001 =>
  some T1001)
theorem b_X9_refuse_b16 {g : q_G} {S0 : kp_S} {xt0 : Int32} {Sn : kp_S} {post : kp_S → Prop} {v : q_V} (R : q_Gd 1 g S0 Sn)  (h : fX9_refuse_b16 xt0 (q_w g Sn) = some v) (kk : ∀ S, q_Gd 1 g S0 S → v = q_w g S → post S) : wX9_refuse_b16 (g 0 9 0) xt0 (g 0 9 0) Sn post := by
  unfold wX9_refuse_b16; unfold fX9_refuse_b16 at h
  obtain ⟨v1, h1, h⟩ := q_bvi h
  refine b_X9_stopWith R h1 (fun T1001 R q => ?_)
  subst q
  exact q_finv h kk R
def fX9_refuse (S : q_V) : Option q_V :=
  if (q_i S 1805) = 262 then
  fX9_refuse_b16 1 S
  else
  fX9_refuse_b16 2 S
theorem b_X9_refuse {g : q_G} {S0 : kp_S} {S : kp_S} {post : kp_S → Prop} {v : q_V} (R : q_Gd 1 g S0 S)  (h : fX9_refuse (q_w g S) = some v) (kk : ∀ S, q_Gd 1 g S0 S → v = q_w g S → post S) : wX9_refuse (g 0 9 0) S post := by
  unfold wX9_refuse; unfold fX9_refuse at h
  refine ⟨fun c => ?_, fun c => ?_⟩
  · replace h := q_ifn h c
    exact b_X9_refuse_b16 R h kk
  · replace h := q_ifp h c
    exact b_X9_refuse_b16 R h kk
def fX9_expect_b19 (x1 : Int32) (Sn : q_V) : Option q_V :=
  some Sn
theorem b_X9_expect_b19 {g : q_G} {S0 : kp_S} {x1 : Int32} {Sn : kp_S} {post : kp_S → Prop} {v : q_V} (R : q_Gd 1 g S0 Sn)  (h : fX9_expect_b19 x1 (q_w g Sn) = some v) (kk : ∀ S, q_Gd 1 g S0 S → v = q_w g S → post S) : wX9_expect_b19 (g 0 9 0) x1 Sn post := by
  unfold wX9_expect_b19; unfold fX9_expect_b19 at h
  exact q_finv h kk R
def fX9_expect (x1 : Int32) (S : q_V) : Option q_V :=
  if (q_i S 1805) = x1 then
  q_bv (fX9_advance S) (fun T2 =>
  fX9_expect_b19 x1 T2)
  else
  q_bv (fX9_refuse S) (fun T1 =>
  fX9_expect_b19 x1 T1)
theorem b_X9_expect {g : q_G} {S0 : kp_S} {x1 : Int32} {S : kp_S} {post : kp_S → Prop} {v : q_V} (R : q_Gd 1 g S0 S)  (h : fX9_expect x1 (q_w g S) = some v) (kk : ∀ S, q_Gd 1 g S0 S → v = q_w g S → post S) : wX9_expect (g 0 9 0) x1 S post := by
  unfold wX9_expect; unfold fX9_expect at h
  refine ⟨fun c => ?_, fun c => ?_⟩
  · replace h := q_ifn h c
    obtain ⟨v1, h1, h⟩ := q_bvi h
    refine b_X9_refuse R h1 (fun T1 R q => ?_)
    subst q
    exact b_X9_expect_b19 R h kk
  · replace h := q_ifp h c
    obtain ⟨v1, h1, h⟩ := q_bvi h
    refine b_X9_advance R h1 (fun T2 R q => ?_)
    subst q
    exact b_X9_expect_b19 R h kk
def fX9_expectNest_b46 (x1 : Int32) (Sn : q_V) : Option q_V :=
  some Sn
theorem b_X9_expectNest_b46 {g : q_G} {S0 : kp_S} {x1 : Int32} {Sn : kp_S} {post : kp_S → Prop} {v : q_V} (R : q_Gd 1 g S0 Sn)  (h : fX9_expectNest_b46 x1 (q_w g Sn) = some v) (kk : ∀ S, q_Gd 1 g S0 S → v = q_w g S → post S) : wX9_expectNest_b46 (g 0 9 0) x1 Sn post := by
  unfold wX9_expectNest_b46; unfold fX9_expectNest_b46 at h
  exact q_finv h kk R
def fX9_expectNest (x1 : Int32) (S : q_V) : Option q_V :=
  if (q_i S 1805) = x1 then
  if (q_i S 1804) < 14 then
  q_lt (q_si S 1804 (((q_i S 1804) + 1))) (fun T1 =>
  q_bv (fX9_advance T1) (fun T2 =>
  fX9_expectNest_b46 x1 T2))
  else
  q_bv (fX9_stopWith 3 S) (fun T3 =>
  fX9_expectNest_b46 x1 T3)
  else
  q_bv (fX9_refuse S) (fun T5 =>
  fX9_expectNest_b46 x1 T5)
theorem b_X9_expectNest {g : q_G} {S0 : kp_S} {x1 : Int32} {S : kp_S} {post : kp_S → Prop} {v : q_V} (R : q_Gd 1 g S0 S)  (h : fX9_expectNest x1 (q_w g S) = some v) (kk : ∀ S, q_Gd 1 g S0 S → v = q_w g S → post S) : wX9_expectNest (g 0 9 0) x1 S post := by
  unfold wX9_expectNest; unfold fX9_expectNest at h
  refine ⟨fun c => ?_, fun c => ?_⟩
  · replace h := q_ifp h c
    refine ⟨fun c => ?_, fun c => ?_⟩
    · replace h := q_ifp h c
      intro T1 q
      obtain ⟨R, q⟩ := q_wI R q rfl rfl
      replace h := q_ltw h q
      obtain ⟨v1, h1, h⟩ := q_bvi h
      refine b_X9_advance R h1 (fun T2 R q => ?_)
      subst q
      exact b_X9_expectNest_b46 R h kk
    · replace h := q_ifn h c
      obtain ⟨v1, h1, h⟩ := q_bvi h
      refine b_X9_stopWith R h1 (fun T3 R q => ?_)
      subst q
      exact b_X9_expectNest_b46 R h kk
  · replace h := q_ifn h c
    obtain ⟨v1, h1, h⟩ := q_bvi h
    refine b_X9_refuse R h1 (fun T5 R q => ?_)
    subst q
    exact b_X9_expectNest_b46 R h kk
def fX9_endNest (S : q_V) : Option q_V :=
  q_lt (q_si S 1804 (((q_i S 1804) - 1))) (fun T1 =>
  some T1)
theorem b_X9_endNest {g : q_G} {S0 : kp_S} {S : kp_S} {post : kp_S → Prop} {v : q_V} (R : q_Gd 1 g S0 S)  (h : fX9_endNest (q_w g S) = some v) (kk : ∀ S, q_Gd 1 g S0 S → v = q_w g S → post S) : wX9_endNest (g 0 9 0) S post := by
  unfold wX9_endNest; unfold fX9_endNest at h
  intro T1 q
  obtain ⟨R, q⟩ := q_wI R q rfl rfl
  replace h := q_ltw h q
  exact q_finv h kk R
