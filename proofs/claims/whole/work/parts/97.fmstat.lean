/-! The functions of the methods, and the rows that they speak for the w. (generated: wip/whole/gen2.py) -/
def fX12_variable_b55 (Sn : q_V) : Option (Int64 × q_V) :=
  q_bd (fX12_risky 1 Sn) (fun z1002 T1001 =>
  some (z1002, T1001))
theorem b_X12_variable_b55 {g : q_G} {S0 : kp_S} {Sn : kp_S} {post : Int64 → kp_S → Prop} {y : Int64} {v : q_V} (R : q_Gd 2 g S0 Sn)  (h : fX12_variable_b55 (q_w g Sn) = some (y, v)) (kk : ∀ S, q_Gd 2 g S0 S → v = q_w g S → post y S) : wX12_variable_b55 (g 0 12 0) Sn post := by
  unfold wX12_variable_b55; unfold fX12_variable_b55 at h
  obtain ⟨z1002, v1, h1, h⟩ := q_bdi h
  refine b_X12_risky R h1 (fun T1001 R q => ?_)
  subst q
  exact q_fin h kk R
def fX12_variable (S : q_V) : Option (Int64 × q_V) :=
  q_lt (q_si S 2410 (((q_i S 2410) + 1))) (fun T1 =>
  q_lt ((q_i T1 2410) : Int32) (fun y2 =>
  q_bv (fX12_take 2 T1) (fun T3 =>
  q_bv (fX12_takeSign 61 T3) (fun T4 =>
  q_bv (fX12_expression_t T4) (fun T5 =>
  q_bv (fX12_takeSign 59 T5) (fun T6 =>
  q_bd (fX12_fine T6) (fun y8 T7 =>
  if y8 = 0 then
  fX12_variable_b55 T7
  else
  q_bd (fX12_tell y2 T7) (fun y10 T9 =>
  q_bd (fX12_emit 3 y10 0 T9) (fun y12 T11 =>
  fX12_variable_b55 T11)))))))))
theorem b_X12_variable {g : q_G} {S0 : kp_S} {S : kp_S} {post : Int64 → kp_S → Prop} {y : Int64} {v : q_V} (R : q_Gd 2 g S0 S)  (h : fX12_variable (q_w g S) = some (y, v)) (kk : ∀ S, q_Gd 2 g S0 S → v = q_w g S → post y S) : wX12_variable (g 0 12 0) S post := by
  unfold wX12_variable; unfold fX12_variable at h
  intro T1 q
  obtain ⟨R, q⟩ := q_wI R q rfl rfl
  replace h := q_ltw h q
  intro y2 q
  replace h := q_ltw h q
  obtain ⟨v1, h1, h⟩ := q_bvi h
  refine b_X12_take R h1 (fun T3 R q => ?_)
  subst q
  obtain ⟨v1, h1, h⟩ := q_bvi h
  refine b_X12_takeSign R h1 (fun T4 R q => ?_)
  subst q
  obtain ⟨v1, h1, h⟩ := q_bvi h
  refine b_X12_expression_t R h1 (fun T5 R q => ?_)
  subst q
  obtain ⟨v1, h1, h⟩ := q_bvi h
  refine b_X12_takeSign R h1 (fun T6 R q => ?_)
  subst q
  obtain ⟨y8, v1, h1, h⟩ := q_bdi h
  refine b_X12_fine R h1 (fun T7 R q => ?_)
  subst q
  refine ⟨fun c => ?_, fun c => ?_⟩
  · replace h := q_ifp h c
    exact b_X12_variable_b55 R h kk
  · replace h := q_ifn h c
    obtain ⟨y10, v1, h1, h⟩ := q_bdi h
    refine b_X12_tell R h1 (fun T9 R q => ?_)
    subst q
    obtain ⟨y12, v1, h1, h⟩ := q_bdi h
    refine b_X12_emit R h1 (fun T11 R q => ?_)
    subst q
    exact b_X12_variable_b55 R h kk
def fX12_order_b30 (x1 : Int32) (x2 : Int32) (w3 : Int64) (xn5 : Int32) (K13 : Int32 → q_V → Option (Int64 × q_V)) (Sn : q_V) : Option (Int64 × q_V) :=
  q_bv (fX12_expression_t Sn) (fun T1001 =>
  q_lt (xn5 + 1 : Int32) (fun y1002 =>
  K13 y1002 T1001))
theorem b_X12_order_b30 {g : q_G} {S0 : kp_S} {x1 : Int32} {x2 : Int32} {w3 : Int64} {xn5 : Int32} {K13f : Int32 → q_V → Option (Int64 × q_V)} {K13 : Int32 → kp_S → Prop} {Sn : kp_S} {post : Int64 → kp_S → Prop} {y : Int64} {v : q_V} (R : q_Gd 2 g S0 Sn) (hK13 : ∀ (x0 : Int32) (S : kp_S), q_Gd 2 g S0 S → K13f x0 (q_w g S) = some (y, v) → K13 x0 S) (h : fX12_order_b30 x1 x2 w3 xn5 K13f (q_w g Sn) = some (y, v)) (kk : ∀ S, q_Gd 2 g S0 S → v = q_w g S → post y S) : wX12_order_b30 (g 0 12 0) x1 x2 w3 xn5 K13 Sn post := by
  unfold wX12_order_b30; unfold fX12_order_b30 at h
  obtain ⟨v1, h1, h⟩ := q_bvi h
  refine b_X12_expression_t R h1 (fun T1001 R q => ?_)
  subst q
  intro y1002 q
  replace h := q_ltw h q
  exact hK13 _ _ R h
def fX12_order_L13 (x1 : Int32) (x2 : Int32) (w3 : Int64) : Nat → Int32 → q_V → Option (Int64 × q_V)
  | 0, _, _ => none
  | n + 1, xn5, Sn =>
  if x1 ≤ xn5 then
  q_bv (fX12_takeSign 59 Sn) (fun T2001 =>
  q_bd (fX12_emit x2 0 0 T2001) (fun y2003 T2002 =>
  some (w3, T2002)))
  else
  if xn5 ≤ 0 then
  fX12_order_b30 x1 x2 w3 xn5 (fun xn5_ S_ => fX12_order_L13 x1 x2 w3 n xn5_ S_) Sn
  else
  q_bv (fX12_takeSign 44 Sn) (fun T2004 =>
  fX12_order_b30 x1 x2 w3 xn5 (fun xn5_ S_ => fX12_order_L13 x1 x2 w3 n xn5_ S_) T2004)
theorem b_X12_order_L13 {g : q_G} {S0 : kp_S} {x1 : Int32} {x2 : Int32} {w3 : Int64} {post : Int64 → kp_S → Prop} {y : Int64} {v : q_V}  (kk : ∀ S, q_Gd 2 g S0 S → v = q_w g S → post y S) : ∀ (n : Nat) (xn5 : Int32) (Sn : kp_S), q_Gd 2 g S0 Sn → fX12_order_L13 x1 x2 w3 n xn5 (q_w g Sn) = some (y, v) → wX12_order_L13 (g 0 12 0) x1 x2 w3 post n xn5 Sn := by
  intro n
  induction n with
  | zero => intro xn5 Sn _ h; cases h
  | succ n ih =>
    intro xn5 Sn R h
    unfold wX12_order_L13; unfold fX12_order_L13 at h
    refine ⟨fun c => ?_, fun c => ?_⟩
    · replace h := q_ifp h c
      obtain ⟨v1, h1, h⟩ := q_bvi h
      refine b_X12_takeSign R h1 (fun T2001 R q => ?_)
      subst q
      obtain ⟨y2003, v1, h1, h⟩ := q_bdi h
      refine b_X12_emit R h1 (fun T2002 R q => ?_)
      subst q
      exact q_fin h kk R
    · replace h := q_ifn h c
      refine ⟨fun c => ?_, fun c => ?_⟩
      · replace h := q_ifp h c
        exact b_X12_order_b30 R (fun xn5_ S_ R h => ih xn5_ S_ R h) h kk
      · replace h := q_ifn h c
        obtain ⟨v1, h1, h⟩ := q_bvi h
        refine b_X12_takeSign R h1 (fun T2004 R q => ?_)
        subst q
        exact b_X12_order_b30 R (fun xn5_ S_ R h => ih xn5_ S_ R h) h kk
def fX12_order (x1 : Int32) (x2 : Int32) (w3 : Int64) (S : q_V) : Option (Int64 × q_V) :=
  q_lt (q_si S 2410 (((q_i S 2410) + 1))) (fun T1 =>
  fX12_order_L13 x1 x2 w3 q_N 0 T1)
theorem b_X12_order {g : q_G} {S0 : kp_S} {x1 : Int32} {x2 : Int32} {w3 : Int64} {S : kp_S} {post : Int64 → kp_S → Prop} {y : Int64} {v : q_V} (R : q_Gd 2 g S0 S)  (h : fX12_order x1 x2 w3 (q_w g S) = some (y, v)) (kk : ∀ S, q_Gd 2 g S0 S → v = q_w g S → post y S) : wX12_order (g 0 12 0) x1 x2 w3 S post := by
  unfold wX12_order; unfold fX12_order at h
  intro T1 q
  obtain ⟨R, q⟩ := q_wI R q rfl rfl
  replace h := q_ltw h q
  exact ⟨q_N, b_X12_order_L13 kk q_N _ _ R h⟩
def fX12_until_b70 (x1 : Int32) (x2 : Int32) (x3 : Int32) (x4 : Int32) (w5 : Int64) (wt0 : Int64) (Sn : q_V) : Option (Int64 × q_V) :=
  some (wt0, Sn)
theorem b_X12_until_b70 {g : q_G} {S0 : kp_S} {x1 : Int32} {x2 : Int32} {x3 : Int32} {x4 : Int32} {w5 : Int64} {wt0 : Int64} {Sn : kp_S} {post : Int64 → kp_S → Prop} {y : Int64} {v : q_V} (R : q_Gd 2 g S0 Sn)  (h : fX12_until_b70 x1 x2 x3 x4 w5 wt0 (q_w g Sn) = some (y, v)) (kk : ∀ S, q_Gd 2 g S0 S → v = q_w g S → post y S) : wX12_until_b70 (g 0 12 0) x1 x2 x3 x4 w5 wt0 Sn post := by
  unfold wX12_until_b70; unfold fX12_until_b70 at h
  exact q_fin h kk R
def fX12_until (x1 : Int32) (x2 : Int32) (x3 : Int32) (x4 : Int32) (w5 : Int64) (S : q_V) : Option (Int64 × q_V) :=
  q_bv (fX12_take 46 S) (fun T1 =>
  if (x1) < 0 ∨ 640 ≤ (x1).toNatClampNeg then none else
  q_lt (q_sa T1 2418 ((upd (q_a T1 2418) (x1.toNatClampNeg) (q_i T1 2417)))) (fun T3 =>
  if (x2) < 0 ∨ 3002 ≤ (x2).toNatClampNeg then none else
  q_bd (fX12_emit 55 ((q_a T3 2405 x2.toNatClampNeg)) 0 T3) (fun y6 T5 =>
  q_lt (q_si T5 2425 0) (fun T7 =>
  q_bv (fX12_expression_t T7) (fun T8 =>
  q_bv (fX12_takeSign 59 T8) (fun T9 =>
  q_bd (fX12_emit 57 x1 x3 T9) (fun y11 T10 =>
  if x4 = 0 then
  fX12_until_b70 x1 x2 x3 x4 w5 w5 T10
  else
  q_bd (fX12_risky w5 T10) (fun z13 T12 =>
  fX12_until_b70 x1 x2 x3 x4 w5 z13 T12))))))))
theorem b_X12_until {g : q_G} {S0 : kp_S} {x1 : Int32} {x2 : Int32} {x3 : Int32} {x4 : Int32} {w5 : Int64} {S : kp_S} {post : Int64 → kp_S → Prop} {y : Int64} {v : q_V} (R : q_Gd 2 g S0 S)  (h : fX12_until x1 x2 x3 x4 w5 (q_w g S) = some (y, v)) (kk : ∀ S, q_Gd 2 g S0 S → v = q_w g S → post y S) : wX12_until (g 0 12 0) x1 x2 x3 x4 w5 S post := by
  unfold wX12_until; unfold fX12_until at h
  obtain ⟨v1, h1, h⟩ := q_bvi h
  refine b_X12_take R h1 (fun T1 R q => ?_)
  subst q
  refine ⟨_, q_p2418 R, ?_⟩
  rw [q_l2418 R]
  obtain ⟨hi, h⟩ := q_in h
  refine ⟨hi, ?_⟩
  intro T3 q
  obtain ⟨R, q⟩ := q_wA R q rfl
  replace h := q_ltw h q
  refine ⟨_, q_p2405 R, ?_⟩
  rw [q_l2405 R]
  obtain ⟨hi, h⟩ := q_in h
  refine ⟨hi, ?_⟩
  obtain ⟨y6, v1, h1, h⟩ := q_bdi h
  refine b_X12_emit R h1 (fun T5 R q => ?_)
  subst q
  intro T7 q
  obtain ⟨R, q⟩ := q_wI R q rfl rfl
  replace h := q_ltw h q
  obtain ⟨v1, h1, h⟩ := q_bvi h
  refine b_X12_expression_t R h1 (fun T8 R q => ?_)
  subst q
  obtain ⟨v1, h1, h⟩ := q_bvi h
  refine b_X12_takeSign R h1 (fun T9 R q => ?_)
  subst q
  obtain ⟨y11, v1, h1, h⟩ := q_bdi h
  refine b_X12_emit R h1 (fun T10 R q => ?_)
  subst q
  refine ⟨fun c => ?_, fun c => ?_⟩
  · replace h := q_ifp h c
    exact b_X12_until_b70 R h kk
  · replace h := q_ifn h c
    obtain ⟨z13, v1, h1, h⟩ := q_bdi h
    refine b_X12_risky R h1 (fun T12 R q => ?_)
    subst q
    exact b_X12_until_b70 R h kk
def fX12_list_b113 (x1 : Int32) (x2 : Int32) (xn4 : Int32) (xn5 : Int32) (K60 : Int32 → Int32 → q_V → Option (Int32 × q_V)) (Sn : q_V) : Option (Int32 × q_V) :=
  q_lt (xn5 + 1 : Int32) (fun y1001 =>
  K60 xn4 y1001 Sn)
theorem b_X12_list_b113 {g : q_G} {S0 : kp_S} {x1 : Int32} {x2 : Int32} {xn4 : Int32} {xn5 : Int32} {K60f : Int32 → Int32 → q_V → Option (Int32 × q_V)} {K60 : Int32 → Int32 → kp_S → Prop} {Sn : kp_S} {post : Int32 → kp_S → Prop} {y : Int32} {v : q_V} (R : q_Gd 2 g S0 Sn) (hK60 : ∀ (x0 : Int32) (x1 : Int32) (S : kp_S), q_Gd 2 g S0 S → K60f x0 x1 (q_w g S) = some (y, v) → K60 x0 x1 S) (h : fX12_list_b113 x1 x2 xn4 xn5 K60f (q_w g Sn) = some (y, v)) (kk : ∀ S, q_Gd 2 g S0 S → v = q_w g S → post y S) : wX12_list_b113 (g 0 12 0) x1 x2 xn4 xn5 K60 Sn post := by
  unfold wX12_list_b113; unfold fX12_list_b113 at h
  intro y1001 q
  replace h := q_ltw h q
  exact hK60 _ _ _ R h
def fX12_list_b91 (x1 : Int32) (x2 : Int32) (xn4 : Int32) (xn5 : Int32) (K60 : Int32 → Int32 → q_V → Option (Int32 × q_V)) (Sn : q_V) : Option (Int32 × q_V) :=
  if (xn5) < 0 ∨ 4000 ≤ (xn5).toNatClampNeg then none else
  if (q_a Sn 2415 xn5.toNatClampNeg) = (- 1) then
  if (xn5) < 0 ∨ 4000 ≤ (xn5).toNatClampNeg then none else
  q_lt (q_sa Sn 2415 ((upd (q_a Sn 2415) (xn5.toNatClampNeg) (q_i Sn 2417)))) (fun T2002 =>
  fX12_list_b113 x1 x2 xn4 xn5 K60 T2002)
  else
  fX12_list_b113 x1 x2 xn4 xn5 K60 Sn
theorem b_X12_list_b91 {g : q_G} {S0 : kp_S} {x1 : Int32} {x2 : Int32} {xn4 : Int32} {xn5 : Int32} {K60f : Int32 → Int32 → q_V → Option (Int32 × q_V)} {K60 : Int32 → Int32 → kp_S → Prop} {Sn : kp_S} {post : Int32 → kp_S → Prop} {y : Int32} {v : q_V} (R : q_Gd 2 g S0 Sn) (hK60 : ∀ (x0 : Int32) (x1 : Int32) (S : kp_S), q_Gd 2 g S0 S → K60f x0 x1 (q_w g S) = some (y, v) → K60 x0 x1 S) (h : fX12_list_b91 x1 x2 xn4 xn5 K60f (q_w g Sn) = some (y, v)) (kk : ∀ S, q_Gd 2 g S0 S → v = q_w g S → post y S) : wX12_list_b91 (g 0 12 0) x1 x2 xn4 xn5 K60 Sn post := by
  unfold wX12_list_b91; unfold fX12_list_b91 at h
  refine ⟨_, q_p2415 R, ?_⟩
  rw [q_l2415 R]
  obtain ⟨hi, h⟩ := q_in h
  refine ⟨hi, ?_⟩
  refine ⟨fun c => ?_, fun c => ?_⟩
  · replace h := q_ifn h c
    exact b_X12_list_b113 R hK60 h kk
  · replace h := q_ifp h c
    obtain ⟨hi, h⟩ := q_in h
    refine ⟨hi, ?_⟩
    intro T2002 q
    obtain ⟨R, q⟩ := q_wA R q rfl
    replace h := q_ltw h q
    exact b_X12_list_b113 R hK60 h kk
def fX12_list_L60 (x1 : Int32) (x2 : Int32) : Nat → Int32 → Int32 → q_V → Option (Int32 × q_V)
  | 0, _, _, _ => none
  | n + 1, xn4, xn5, Sn =>
  if (q_i Sn 2417) ≤ xn5 then
  some (xn4, Sn)
  else
  if (xn5) < 0 ∨ 4000 ≤ (xn5).toNatClampNeg then none else
  if (q_a Sn 2414 xn5.toNatClampNeg) = x1 then
  fX12_list_b91 x1 x2 xn4 xn5 (fun xn4_ xn5_ S_ => fX12_list_L60 x1 x2 n xn4_ xn5_ S_) Sn
  else
  if (xn5) < 0 ∨ 4000 ≤ (xn5).toNatClampNeg then none else
  if (q_a Sn 2414 xn5.toNatClampNeg) = x2 then
  fX12_list_b91 x1 x2 xn4 xn5 (fun xn4_ xn5_ S_ => fX12_list_L60 x1 x2 n xn4_ xn5_ S_) Sn
  else
  fX12_list_b113 x1 x2 xn4 xn5 (fun xn4_ xn5_ S_ => fX12_list_L60 x1 x2 n xn4_ xn5_ S_) Sn
theorem b_X12_list_L60 {g : q_G} {S0 : kp_S} {x1 : Int32} {x2 : Int32} {post : Int32 → kp_S → Prop} {y : Int32} {v : q_V}  (kk : ∀ S, q_Gd 2 g S0 S → v = q_w g S → post y S) : ∀ (n : Nat) (xn4 : Int32) (xn5 : Int32) (Sn : kp_S), q_Gd 2 g S0 Sn → fX12_list_L60 x1 x2 n xn4 xn5 (q_w g Sn) = some (y, v) → wX12_list_L60 (g 0 12 0) x1 x2 post n xn4 xn5 Sn := by
  intro n
  induction n with
  | zero => intro xn4 xn5 Sn _ h; cases h
  | succ n ih =>
    intro xn4 xn5 Sn R h
    unfold wX12_list_L60; unfold fX12_list_L60 at h
    refine ⟨fun c => ?_, fun c => ?_⟩
    · replace h := q_ifp h c
      exact q_fin h kk R
    · replace h := q_ifn h c
      refine ⟨_, q_p2414 R, ?_⟩
      rw [q_l2414 R]
      obtain ⟨hi, h⟩ := q_in h
      refine ⟨hi, ?_⟩
      refine ⟨fun c => ?_, fun c => ?_⟩
      · replace h := q_ifp h c
        exact b_X12_list_b91 R (fun xn4_ xn5_ S_ R h => ih xn4_ xn5_ S_ R h) h kk
      · replace h := q_ifn h c
        obtain ⟨hi, h⟩ := q_in h
        refine ⟨hi, ?_⟩
        refine ⟨fun c => ?_, fun c => ?_⟩
        · replace h := q_ifn h c
          exact b_X12_list_b113 R (fun xn4_ xn5_ S_ R h => ih xn4_ xn5_ S_ R h) h kk
        · replace h := q_ifp h c
          exact b_X12_list_b91 R (fun xn4_ xn5_ S_ R h => ih xn4_ xn5_ S_ R h) h kk
def fX12_list_b47 (x1 : Int32) (x2 : Int32) (xn3 : Int32) (Sn : q_V) : Option (Int32 × q_V) :=
  q_bd (fX12_emit 41 0 0 Sn) (fun y4002 T4001 =>
  fX12_list_L60 x1 x2 q_N y4002 xn3 T4001)
theorem b_X12_list_b47 {g : q_G} {S0 : kp_S} {x1 : Int32} {x2 : Int32} {xn3 : Int32} {Sn : kp_S} {post : Int32 → kp_S → Prop} {y : Int32} {v : q_V} (R : q_Gd 2 g S0 Sn)  (h : fX12_list_b47 x1 x2 xn3 (q_w g Sn) = some (y, v)) (kk : ∀ S, q_Gd 2 g S0 S → v = q_w g S → post y S) : wX12_list_b47 (g 0 12 0) x1 x2 xn3 Sn post := by
  unfold wX12_list_b47; unfold fX12_list_b47 at h
  obtain ⟨y4002, v1, h1, h⟩ := q_bdi h
  refine b_X12_emit R h1 (fun T4001 R q => ?_)
  subst q
  exact ⟨q_N, b_X12_list_L60 kk q_N _ _ _ R h⟩
def fX12_list_L25 (x1 : Int32) (x2 : Int32) : Nat → Int32 → q_V → Option (Int32 × q_V)
  | 0, _, _ => none
  | n + 1, xn3, Sn =>
  q_bv (fX12_expression_t Sn) (fun T5001 =>
  q_bd (fX12_emit x2 ((- 1)) 0 T5001) (fun y5003 T5002 =>
  q_bd (fX12_skip 144 T5002) (fun y5005 T5004 =>
  if y5005 = 0 then
  fX12_list_b47 x1 x2 xn3 T5004
  else
  fX12_list_L25 x1 x2 n xn3 T5004)))
theorem b_X12_list_L25 {g : q_G} {S0 : kp_S} {x1 : Int32} {x2 : Int32} {post : Int32 → kp_S → Prop} {y : Int32} {v : q_V}  (kk : ∀ S, q_Gd 2 g S0 S → v = q_w g S → post y S) : ∀ (n : Nat) (xn3 : Int32) (Sn : kp_S), q_Gd 2 g S0 Sn → fX12_list_L25 x1 x2 n xn3 (q_w g Sn) = some (y, v) → wX12_list_L25 (g 0 12 0) x1 x2 post n xn3 Sn := by
  intro n
  induction n with
  | zero => intro xn3 Sn _ h; cases h
  | succ n ih =>
    intro xn3 Sn R h
    unfold wX12_list_L25; unfold fX12_list_L25 at h
    obtain ⟨v1, h1, h⟩ := q_bvi h
    refine b_X12_expression_t R h1 (fun T5001 R q => ?_)
    subst q
    obtain ⟨y5003, v1, h1, h⟩ := q_bdi h
    refine b_X12_emit R h1 (fun T5002 R q => ?_)
    subst q
    obtain ⟨y5005, v1, h1, h⟩ := q_bdi h
    refine b_X12_skip R h1 (fun T5004 R q => ?_)
    subst q
    refine ⟨fun c => ?_, fun c => ?_⟩
    · replace h := q_ifn h c
      exact ih _ _ R h
    · replace h := q_ifp h c
      exact b_X12_list_b47 R h kk
def fX12_list (x1 : Int32) (x2 : Int32) (S : q_V) : Option (Int32 × q_V) :=
  q_lt ((q_i S 2417) : Int32) (fun y1 =>
  q_bd (fX12_skip 26 S) (fun y3 T2 =>
  if y3 = 0 then
  fX12_list_L25 x1 x2 q_N y1 T2
  else
  q_bd (fX12_emit x1 ((- 1)) 0 T2) (fun y5 T4 =>
  fX12_list_b47 x1 x2 y1 T4)))
theorem b_X12_list {g : q_G} {S0 : kp_S} {x1 : Int32} {x2 : Int32} {S : kp_S} {post : Int32 → kp_S → Prop} {y : Int32} {v : q_V} (R : q_Gd 2 g S0 S)  (h : fX12_list x1 x2 (q_w g S) = some (y, v)) (kk : ∀ S, q_Gd 2 g S0 S → v = q_w g S → post y S) : wX12_list (g 0 12 0) x1 x2 S post := by
  unfold wX12_list; unfold fX12_list at h
  intro y1 q
  replace h := q_ltw h q
  obtain ⟨y3, v1, h1, h⟩ := q_bdi h
  refine b_X12_skip R h1 (fun T2 R q => ?_)
  subst q
  refine ⟨fun c => ?_, fun c => ?_⟩
  · replace h := q_ifp h c
    exact ⟨q_N, b_X12_list_L25 kk q_N _ _ R h⟩
  · replace h := q_ifn h c
    obtain ⟨y5, v1, h1, h⟩ := q_bdi h
    refine b_X12_emit R h1 (fun T4 R q => ?_)
    subst q
    exact b_X12_list_b47 R h kk
def fX12_answer_b34 (Sn : q_V) : Option (Int64 × q_V) :=
  q_bv (fX12_takeSign 59 Sn) (fun T1001 =>
  q_bd (fX12_emit 38 0 0 T1001) (fun y1003 T1002 =>
  q_bd (fX12_risky 2 T1002) (fun z1005 T1004 =>
  some (z1005, T1004))))
theorem b_X12_answer_b34 {g : q_G} {S0 : kp_S} {Sn : kp_S} {post : Int64 → kp_S → Prop} {y : Int64} {v : q_V} (R : q_Gd 2 g S0 Sn)  (h : fX12_answer_b34 (q_w g Sn) = some (y, v)) (kk : ∀ S, q_Gd 2 g S0 S → v = q_w g S → post y S) : wX12_answer_b34 (g 0 12 0) Sn post := by
  unfold wX12_answer_b34; unfold fX12_answer_b34 at h
  obtain ⟨v1, h1, h⟩ := q_bvi h
  refine b_X12_takeSign R h1 (fun T1001 R q => ?_)
  subst q
  obtain ⟨y1003, v1, h1, h⟩ := q_bdi h
  refine b_X12_emit R h1 (fun T1002 R q => ?_)
  subst q
  obtain ⟨z1005, v1, h1, h⟩ := q_bdi h
  refine b_X12_risky R h1 (fun T1004 R q => ?_)
  subst q
  exact q_fin h kk R
def fX12_answer (S : q_V) : Option (Int64 × q_V) :=
  q_lt (q_si S 2410 (((q_i S 2410) + 1))) (fun T1 =>
  q_bd (fX12_isSign 59 T1) (fun y3 T2 =>
  if y3 = 0 then
  q_bv (fX12_expression_t T2) (fun T4 =>
  fX12_answer_b34 T4)
  else
  q_bd (fX12_emit 1 0 0 T2) (fun y6 T5 =>
  fX12_answer_b34 T5)))
theorem b_X12_answer {g : q_G} {S0 : kp_S} {S : kp_S} {post : Int64 → kp_S → Prop} {y : Int64} {v : q_V} (R : q_Gd 2 g S0 S)  (h : fX12_answer (q_w g S) = some (y, v)) (kk : ∀ S, q_Gd 2 g S0 S → v = q_w g S → post y S) : wX12_answer (g 0 12 0) S post := by
  unfold wX12_answer; unfold fX12_answer at h
  intro T1 q
  obtain ⟨R, q⟩ := q_wI R q rfl rfl
  replace h := q_ltw h q
  obtain ⟨y3, v1, h1, h⟩ := q_bdi h
  refine b_X12_isSign R h1 (fun T2 R q => ?_)
  subst q
  refine ⟨fun c => ?_, fun c => ?_⟩
  · replace h := q_ifp h c
    obtain ⟨v1, h1, h⟩ := q_bvi h
    refine b_X12_expression_t R h1 (fun T4 R q => ?_)
    subst q
    exact b_X12_answer_b34 R h kk
  · replace h := q_ifn h c
    obtain ⟨y6, v1, h1, h⟩ := q_bdi h
    refine b_X12_emit R h1 (fun T5 R q => ?_)
    subst q
    exact b_X12_answer_b34 R h kk
def fX12_away_b171 (x1 : Int32) (w2 : Int64) (wt0 : Int64) (Sn : q_V) : Option (Int64 × q_V) :=
  some (wt0, Sn)
theorem b_X12_away_b171 {g : q_G} {S0 : kp_S} {x1 : Int32} {w2 : Int64} {wt0 : Int64} {Sn : kp_S} {post : Int64 → kp_S → Prop} {y : Int64} {v : q_V} (R : q_Gd 2 g S0 Sn)  (h : fX12_away_b171 x1 w2 wt0 (q_w g Sn) = some (y, v)) (kk : ∀ S, q_Gd 2 g S0 S → v = q_w g S → post y S) : wX12_away_b171 (g 0 12 0) x1 w2 wt0 Sn post := by
  unfold wX12_away_b171; unfold fX12_away_b171 at h
  exact q_fin h kk R
def fX12_away_b152 (x1 : Int32) (w2 : Int64) (xn6 : Int32) (xt0 : Int32) (xt1 : Int32) (Sn : q_V) : Option (Int64 × q_V) :=
  q_bd (fX12_emit xt1 xt0 0 Sn) (fun y2002 T2001 =>
  if xn6 = (- 1) then
  fX12_away_b171 x1 w2 0 T2001
  else
  fX12_away_b171 x1 w2 (((w2 : Int64) <<< ((xn6 : Int32).toInt64 &&& 63))) T2001)
theorem b_X12_away_b152 {g : q_G} {S0 : kp_S} {x1 : Int32} {w2 : Int64} {xn6 : Int32} {xt0 : Int32} {xt1 : Int32} {Sn : kp_S} {post : Int64 → kp_S → Prop} {y : Int64} {v : q_V} (R : q_Gd 2 g S0 Sn)  (h : fX12_away_b152 x1 w2 xn6 xt0 xt1 (q_w g Sn) = some (y, v)) (kk : ∀ S, q_Gd 2 g S0 S → v = q_w g S → post y S) : wX12_away_b152 (g 0 12 0) x1 w2 xn6 xt0 xt1 (g 0 12 0) Sn post := by
  unfold wX12_away_b152; unfold fX12_away_b152 at h
  obtain ⟨y2002, v1, h1, h⟩ := q_bdi h
  refine b_X12_emit R h1 (fun T2001 R q => ?_)
  subst q
  refine ⟨fun c => ?_, fun c => ?_⟩
  · replace h := q_ifn h c
    exact b_X12_away_b171 R h kk
  · replace h := q_ifp h c
    exact b_X12_away_b171 R h kk
def fX12_away_b127 (x1 : Int32) (w2 : Int64) (xn6 : Int32) (Sn : q_V) : Option (Int64 × q_V) :=
  q_bv (fX12_takeSign 59 Sn) (fun T3001 =>
  if xn6 = (- 1) then
  fX12_away_b152 x1 w2 xn6 ((- 1)) x1 T3001
  else
  if (xn6) < 0 ∨ 20 ≤ (xn6).toNatClampNeg then none else
  fX12_away_b152 x1 w2 xn6 ((q_a T3001 2444 xn6.toNatClampNeg)) x1 T3001)
theorem b_X12_away_b127 {g : q_G} {S0 : kp_S} {x1 : Int32} {w2 : Int64} {xn6 : Int32} {Sn : kp_S} {post : Int64 → kp_S → Prop} {y : Int64} {v : q_V} (R : q_Gd 2 g S0 Sn)  (h : fX12_away_b127 x1 w2 xn6 (q_w g Sn) = some (y, v)) (kk : ∀ S, q_Gd 2 g S0 S → v = q_w g S → post y S) : wX12_away_b127 (g 0 12 0) x1 w2 xn6 Sn post := by
  unfold wX12_away_b127; unfold fX12_away_b127 at h
  obtain ⟨v1, h1, h⟩ := q_bvi h
  refine b_X12_takeSign R h1 (fun T3001 R q => ?_)
  subst q
  refine ⟨fun c => ?_, fun c => ?_⟩
  · replace h := q_ifn h c
    refine ⟨_, q_p2444 R, ?_⟩
    rw [q_l2444 R]
    obtain ⟨hi, h⟩ := q_in h
    refine ⟨hi, ?_⟩
    exact b_X12_away_b152 R h kk
  · replace h := q_ifp h c
    exact b_X12_away_b152 R h kk
def fX12_away_b73 (x1 : Int32) (w2 : Int64) (xn5 : Int32) (xn7 : Int32) (xt0 : Int32) (K39 : Int32 → Int32 → Int32 → q_V → Option (Int64 × q_V)) (Sn : q_V) : Option (Int64 × q_V) :=
  q_lt (xn7 + 1 : Int32) (fun y4001 =>
  K39 xn5 xt0 y4001 Sn)
theorem b_X12_away_b73 {g : q_G} {S0 : kp_S} {x1 : Int32} {w2 : Int64} {xn5 : Int32} {xn7 : Int32} {xt0 : Int32} {K39f : Int32 → Int32 → Int32 → q_V → Option (Int64 × q_V)} {K39 : Int32 → Int32 → Int32 → kp_S → Prop} {Sn : kp_S} {post : Int64 → kp_S → Prop} {y : Int64} {v : q_V} (R : q_Gd 2 g S0 Sn) (hK39 : ∀ (x0 : Int32) (x1 : Int32) (x2 : Int32) (S : kp_S), q_Gd 2 g S0 S → K39f x0 x1 x2 (q_w g S) = some (y, v) → K39 x0 x1 x2 S) (h : fX12_away_b73 x1 w2 xn5 xn7 xt0 K39f (q_w g Sn) = some (y, v)) (kk : ∀ S, q_Gd 2 g S0 S → v = q_w g S → post y S) : wX12_away_b73 (g 0 12 0) x1 w2 xn5 xn7 xt0 K39 Sn post := by
  unfold wX12_away_b73; unfold fX12_away_b73 at h
  intro y4001 q
  replace h := q_ltw h q
  exact hK39 _ _ _ _ R h
def fX12_away_L39 (x1 : Int32) (w2 : Int64) : Nat → Int32 → Int32 → Int32 → q_V → Option (Int64 × q_V)
  | 0, _, _, _, _ => none
  | n + 1, xn5, xn6, xn7, Sn =>
  if (q_i Sn 2445) ≤ xn7 then
  if xn6 = (- 1) then
  q_bv (fX12_bad 5 xn5 Sn) (fun T5001 =>
  fX12_away_b127 x1 w2 xn6 T5001)
  else
  fX12_away_b127 x1 w2 xn6 Sn
  else
  if (xn7) < 0 ∨ 20 ≤ (xn7).toNatClampNeg then none else
  if (xn5) < 0 ∨ 3002 ≤ (xn5).toNatClampNeg then none else
  if (lg_cmp (q_b Sn 2443 xn7.toNatClampNeg) (q_b Sn 2406 xn5.toNatClampNeg)) = 0 then
  fX12_away_b73 x1 w2 xn5 xn7 xn7 (fun xn5_ xn6_ xn7_ S_ => fX12_away_L39 x1 w2 n xn5_ xn6_ xn7_ S_) Sn
  else
  fX12_away_b73 x1 w2 xn5 xn7 xn6 (fun xn5_ xn6_ xn7_ S_ => fX12_away_L39 x1 w2 n xn5_ xn6_ xn7_ S_) Sn
theorem b_X12_away_L39 {g : q_G} {S0 : kp_S} {x1 : Int32} {w2 : Int64} {post : Int64 → kp_S → Prop} {y : Int64} {v : q_V}  (kk : ∀ S, q_Gd 2 g S0 S → v = q_w g S → post y S) : ∀ (n : Nat) (xn5 : Int32) (xn6 : Int32) (xn7 : Int32) (Sn : kp_S), q_Gd 2 g S0 Sn → fX12_away_L39 x1 w2 n xn5 xn6 xn7 (q_w g Sn) = some (y, v) → wX12_away_L39 (g 0 12 0) x1 w2 post n xn5 xn6 xn7 Sn := by
  intro n
  induction n with
  | zero => intro xn5 xn6 xn7 Sn _ h; cases h
  | succ n ih =>
    intro xn5 xn6 xn7 Sn R h
    unfold wX12_away_L39; unfold fX12_away_L39 at h
    refine ⟨fun c => ?_, fun c => ?_⟩
    · replace h := q_ifp h c
      refine ⟨fun c => ?_, fun c => ?_⟩
      · replace h := q_ifn h c
        exact b_X12_away_b127 R h kk
      · replace h := q_ifp h c
        obtain ⟨v1, h1, h⟩ := q_bvi h
        refine b_X12_bad R h1 (fun T5001 R q => ?_)
        subst q
        exact b_X12_away_b127 R h kk
    · replace h := q_ifn h c
      refine ⟨_, q_p2443 R, ?_⟩
      rw [q_l2443 R]
      obtain ⟨hi, h⟩ := q_in h
      refine ⟨hi, ?_⟩
      refine ⟨_, q_p2406 R, ?_⟩
      rw [q_l2406 R]
      obtain ⟨hi, h⟩ := q_in h
      refine ⟨hi, ?_⟩
      refine ⟨fun c => ?_, fun c => ?_⟩
      · replace h := q_ifn h c
        exact b_X12_away_b73 R (fun xn5_ xn6_ xn7_ S_ R h => ih xn5_ xn6_ xn7_ S_ R h) h kk
      · replace h := q_ifp h c
        exact b_X12_away_b73 R (fun xn5_ xn6_ xn7_ S_ R h => ih xn5_ xn6_ xn7_ S_ R h) h kk
def fX12_away (x1 : Int32) (w2 : Int64) (S : q_V) : Option (Int64 × q_V) :=
  q_lt ((q_i S 2410) : Int32) (fun y1 =>
  q_lt (q_si S 2410 (((q_i S 2410) + 1))) (fun T2 =>
  q_lt ((q_i T2 2410) : Int32) (fun y3 =>
  q_bd (fX12_skip 2 T2) (fun y5 T4 =>
  if y5 = 0 then
  if (q_i T4 2445) ≤ (q_i T4 2446) then
  q_bv (fX12_bad 6 y1 T4) (fun T6 =>
  fX12_away_b127 x1 w2 ((- 1)) T6)
  else
  q_lt (((q_i T4 2445) - 1) : Int32) (fun y7 =>
  fX12_away_b127 x1 w2 y7 T4)
  else
  q_lt ((q_i T4 2446) : Int32) (fun y9 =>
  fX12_away_L39 x1 w2 q_N y3 ((- 1)) y9 T4)))))
theorem b_X12_away {g : q_G} {S0 : kp_S} {x1 : Int32} {w2 : Int64} {S : kp_S} {post : Int64 → kp_S → Prop} {y : Int64} {v : q_V} (R : q_Gd 2 g S0 S)  (h : fX12_away x1 w2 (q_w g S) = some (y, v)) (kk : ∀ S, q_Gd 2 g S0 S → v = q_w g S → post y S) : wX12_away (g 0 12 0) x1 w2 S post := by
  unfold wX12_away; unfold fX12_away at h
  intro y1 q
  replace h := q_ltw h q
  intro T2 q
  obtain ⟨R, q⟩ := q_wI R q rfl rfl
  replace h := q_ltw h q
  intro y3 q
  replace h := q_ltw h q
  obtain ⟨y5, v1, h1, h⟩ := q_bdi h
  refine b_X12_skip R h1 (fun T4 R q => ?_)
  subst q
  refine ⟨fun c => ?_, fun c => ?_⟩
  · replace h := q_ifp h c
    refine ⟨fun c => ?_, fun c => ?_⟩
    · replace h := q_ifp h c
      obtain ⟨v1, h1, h⟩ := q_bvi h
      refine b_X12_bad R h1 (fun T6 R q => ?_)
      subst q
      exact b_X12_away_b127 R h kk
    · replace h := q_ifn h c
      intro y7 q
      replace h := q_ltw h q
      exact b_X12_away_b127 R h kk
  · replace h := q_ifn h c
    intro y9 q
    replace h := q_ltw h q
    exact ⟨q_N, b_X12_away_L39 kk q_N _ _ _ _ R h⟩
def fX12_always_b64 (B : q_V → Option (Int64 × q_V)) (x1 : Int32) (w2 : Int64) (wt0 : Int64) (wt1 : Int64) (Sn : q_V) : Option (Int64 × q_V) :=
  some ((wt1 ||| wt0), Sn)
theorem b_X12_always_b64 {g : q_G} {S0 : kp_S} {Bf : q_V → Option (Int64 × q_V)} {B : Nat → kp_S → (Int64 → kp_S → Prop) → Prop} {x1 : Int32} {w2 : Int64} {wt0 : Int64} {wt1 : Int64} {Sn : kp_S} {post : Int64 → kp_S → Prop} {y : Int64} {v : q_V} (R : q_Gd 2 g S0 Sn) (hB : ∀ (S : kp_S) (y : Int64) (v : q_V) (post : Int64 → kp_S → Prop), q_Gd 2 g S0 S → Bf (q_w g S) = some (y, v) → (∀ S, q_Gd 2 g S0 S → v = q_w g S → post y S) → B (g 0 12 0) S post) (h : fX12_always_b64 Bf x1 w2 wt0 wt1 (q_w g Sn) = some (y, v)) (kk : ∀ S, q_Gd 2 g S0 S → v = q_w g S → post y S) : wX12_always_b64 B (g 0 12 0) x1 w2 wt0 wt1 Sn post := by
  unfold wX12_always_b64; unfold fX12_always_b64 at h
  exact q_fin h kk R
def fX12_always (B : q_V → Option (Int64 × q_V)) (x1 : Int32) (w2 : Int64) (S : q_V) : Option (Int64 × q_V) :=
  q_bd (fX12_skip 27 S) (fun y2 T1 =>
  if y2 = 0 then
  some (w2, T1)
  else
  if (x1) < 0 ∨ 640 ≤ (x1).toNatClampNeg then none else
  q_lt (q_sa T1 2419 ((upd (q_a T1 2419) (x1.toNatClampNeg) (q_i T1 2417)))) (fun T4 =>
  q_bd (B T4) (fun z6 T5 =>
  q_bd (fX12_emit 48 0 0 T5) (fun y8 T7 =>
  if (lg_cmp w2 0) = 0 then
  some (0, T7)
  else
  if (lg_cmp (z6 &&& 1) 0) = 0 then
  fX12_always_b64 B x1 w2 0 ((z6 &&& (- 2))) T7
  else
  fX12_always_b64 B x1 w2 w2 ((z6 &&& (- 2))) T7))))
theorem b_X12_always {g : q_G} {S0 : kp_S} {Bf : q_V → Option (Int64 × q_V)} {B : Nat → kp_S → (Int64 → kp_S → Prop) → Prop} {x1 : Int32} {w2 : Int64} {S : kp_S} {post : Int64 → kp_S → Prop} {y : Int64} {v : q_V} (R : q_Gd 2 g S0 S) (hB : ∀ (S : kp_S) (y : Int64) (v : q_V) (post : Int64 → kp_S → Prop), q_Gd 2 g S0 S → Bf (q_w g S) = some (y, v) → (∀ S, q_Gd 2 g S0 S → v = q_w g S → post y S) → B (g 0 12 0) S post) (h : fX12_always Bf x1 w2 (q_w g S) = some (y, v)) (kk : ∀ S, q_Gd 2 g S0 S → v = q_w g S → post y S) : wX12_always B (g 0 12 0) x1 w2 S post := by
  unfold wX12_always; unfold fX12_always at h
  obtain ⟨y2, v1, h1, h⟩ := q_bdi h
  refine b_X12_skip R h1 (fun T1 R q => ?_)
  subst q
  refine ⟨fun c => ?_, fun c => ?_⟩
  · replace h := q_ifn h c
    refine ⟨_, q_p2419 R, ?_⟩
    rw [q_l2419 R]
    obtain ⟨hi, h⟩ := q_in h
    refine ⟨hi, ?_⟩
    intro T4 q
    obtain ⟨R, q⟩ := q_wA R q rfl
    replace h := q_ltw h q
    obtain ⟨z6, v1, h1, h⟩ := q_bdi h
    refine hB _ _ _ _ R h1 (fun T5 R q => ?_)
    subst q
    obtain ⟨y8, v1, h1, h⟩ := q_bdi h
    refine b_X12_emit R h1 (fun T7 R q => ?_)
    subst q
    refine ⟨fun c => ?_, fun c => ?_⟩
    · replace h := q_ifn h c
      refine ⟨fun c => ?_, fun c => ?_⟩
      · replace h := q_ifp h c
        exact b_X12_always_b64 R hB h kk
      · replace h := q_ifn h c
        exact b_X12_always_b64 R hB h kk
    · replace h := q_ifp h c
      exact q_fin h kk R
  · replace h := q_ifp h c
    exact q_fin h kk R
def fX12_loop_b416 (B : q_V → Option (Int64 × q_V)) (x1 : Int32) (w2 : Int64) (xn4 : Int32) (wn8 : Int64) (Sn : q_V) : Option (Int64 × q_V) :=
  if (xn4) < 0 ∨ 640 ≤ (xn4).toNatClampNeg then none else
  q_lt (q_sa Sn 2420 ((upd (q_a Sn 2420) (xn4.toNatClampNeg) (q_i Sn 2417)))) (fun T1002 =>
  some (wn8, T1002))
theorem b_X12_loop_b416 {g : q_G} {S0 : kp_S} {Bf : q_V → Option (Int64 × q_V)} {B : Nat → kp_S → (Int64 → kp_S → Prop) → Prop} {x1 : Int32} {w2 : Int64} {xn4 : Int32} {wn8 : Int64} {Sn : kp_S} {post : Int64 → kp_S → Prop} {y : Int64} {v : q_V} (R : q_Gd 2 g S0 Sn) (hB : ∀ (S : kp_S) (y : Int64) (v : q_V) (post : Int64 → kp_S → Prop), q_Gd 2 g S0 S → Bf (q_w g S) = some (y, v) → (∀ S, q_Gd 2 g S0 S → v = q_w g S → post y S) → B (g 0 12 0) S post) (h : fX12_loop_b416 Bf x1 w2 xn4 wn8 (q_w g Sn) = some (y, v)) (kk : ∀ S, q_Gd 2 g S0 S → v = q_w g S → post y S) : wX12_loop_b416 B (g 0 12 0) x1 w2 xn4 wn8 Sn post := by
  unfold wX12_loop_b416; unfold fX12_loop_b416 at h
  refine ⟨_, q_p2420 R, ?_⟩
  rw [q_l2420 R]
  obtain ⟨hi, h⟩ := q_in h
  refine ⟨hi, ?_⟩
  intro T1002 q
  obtain ⟨R, q⟩ := q_wA R q rfl
  replace h := q_ltw h q
  exact q_fin h kk R
def fX12_loop_b409 (B : q_V → Option (Int64 × q_V)) (x1 : Int32) (w2 : Int64) (xn4 : Int32) (wn8 : Int64) (xt0 : Int32) (xt1 : Int32) (xt2 : Int32) (xt3 : Int32) (Sn : q_V) : Option (Int64 × q_V) :=
  q_bd (fX12_until xt3 xt2 xt1 xt0 wn8 Sn) (fun z2002 T2001 =>
  fX12_loop_b416 B x1 w2 xn4 z2002 T2001)
theorem b_X12_loop_b409 {g : q_G} {S0 : kp_S} {Bf : q_V → Option (Int64 × q_V)} {B : Nat → kp_S → (Int64 → kp_S → Prop) → Prop} {x1 : Int32} {w2 : Int64} {xn4 : Int32} {wn8 : Int64} {xt0 : Int32} {xt1 : Int32} {xt2 : Int32} {xt3 : Int32} {Sn : kp_S} {post : Int64 → kp_S → Prop} {y : Int64} {v : q_V} (R : q_Gd 2 g S0 Sn) (hB : ∀ (S : kp_S) (y : Int64) (v : q_V) (post : Int64 → kp_S → Prop), q_Gd 2 g S0 S → Bf (q_w g S) = some (y, v) → (∀ S, q_Gd 2 g S0 S → v = q_w g S → post y S) → B (g 0 12 0) S post) (h : fX12_loop_b409 Bf x1 w2 xn4 wn8 xt0 xt1 xt2 xt3 (q_w g Sn) = some (y, v)) (kk : ∀ S, q_Gd 2 g S0 S → v = q_w g S → post y S) : wX12_loop_b409 B (g 0 12 0) x1 w2 xn4 wn8 xt0 xt1 xt2 xt3 (g 0 12 0) Sn post := by
  unfold wX12_loop_b409; unfold fX12_loop_b409 at h
  obtain ⟨z2002, v1, h1, h⟩ := q_bdi h
  refine b_X12_until R h1 (fun T2001 R q => ?_)
  subst q
  exact b_X12_loop_b416 R hB h kk
def fX12_loop_b378 (B : q_V → Option (Int64 × q_V)) (x1 : Int32) (w2 : Int64) (xn4 : Int32) (xn6 : Int32) (xn7 : Int32) (wn10 : Int64) (wn14 : Int64) (wt0 : Int64) (wt1 : Int64) (Sn : q_V) : Option (Int64 × q_V) :=
  q_lt ((wt1 ||| wt0) : Int64) (fun z3001 =>
  if xn6 = 0 then
  fX12_loop_b416 B x1 w2 xn4 z3001 Sn
  else
  if (lg_cmp (wn10 &&& (1 ||| wn14)) 0) = 0 then
  fX12_loop_b409 B x1 w2 xn4 z3001 0 xn7 x1 xn4 Sn
  else
  fX12_loop_b409 B x1 w2 xn4 z3001 1 xn7 x1 xn4 Sn)
theorem b_X12_loop_b378 {g : q_G} {S0 : kp_S} {Bf : q_V → Option (Int64 × q_V)} {B : Nat → kp_S → (Int64 → kp_S → Prop) → Prop} {x1 : Int32} {w2 : Int64} {xn4 : Int32} {xn6 : Int32} {xn7 : Int32} {wn10 : Int64} {wn14 : Int64} {wt0 : Int64} {wt1 : Int64} {Sn : kp_S} {post : Int64 → kp_S → Prop} {y : Int64} {v : q_V} (R : q_Gd 2 g S0 Sn) (hB : ∀ (S : kp_S) (y : Int64) (v : q_V) (post : Int64 → kp_S → Prop), q_Gd 2 g S0 S → Bf (q_w g S) = some (y, v) → (∀ S, q_Gd 2 g S0 S → v = q_w g S → post y S) → B (g 0 12 0) S post) (h : fX12_loop_b378 Bf x1 w2 xn4 xn6 xn7 wn10 wn14 wt0 wt1 (q_w g Sn) = some (y, v)) (kk : ∀ S, q_Gd 2 g S0 S → v = q_w g S → post y S) : wX12_loop_b378 B (g 0 12 0) x1 w2 xn4 xn6 xn7 wn10 wn14 wt0 wt1 Sn post := by
  unfold wX12_loop_b378; unfold fX12_loop_b378 at h
  intro z3001 q
  replace h := q_ltw h q
  refine ⟨fun c => ?_, fun c => ?_⟩
  · replace h := q_ifp h c
    exact b_X12_loop_b416 R hB h kk
  · replace h := q_ifn h c
    refine ⟨fun c => ?_, fun c => ?_⟩
    · replace h := q_ifp h c
      exact b_X12_loop_b409 R hB h kk
    · replace h := q_ifn h c
      exact b_X12_loop_b409 R hB h kk
def fX12_loop_b373 (B : q_V → Option (Int64 × q_V)) (x1 : Int32) (w2 : Int64) (xn4 : Int32) (xn6 : Int32) (xn7 : Int32) (wn10 : Int64) (wn14 : Int64) (wt0 : Int64) (Sn : q_V) : Option (Int64 × q_V) :=
  fX12_loop_b378 B x1 w2 xn4 xn6 xn7 wn10 wn14 1 wt0 Sn
theorem b_X12_loop_b373 {g : q_G} {S0 : kp_S} {Bf : q_V → Option (Int64 × q_V)} {B : Nat → kp_S → (Int64 → kp_S → Prop) → Prop} {x1 : Int32} {w2 : Int64} {xn4 : Int32} {xn6 : Int32} {xn7 : Int32} {wn10 : Int64} {wn14 : Int64} {wt0 : Int64} {Sn : kp_S} {post : Int64 → kp_S → Prop} {y : Int64} {v : q_V} (R : q_Gd 2 g S0 Sn) (hB : ∀ (S : kp_S) (y : Int64) (v : q_V) (post : Int64 → kp_S → Prop), q_Gd 2 g S0 S → Bf (q_w g S) = some (y, v) → (∀ S, q_Gd 2 g S0 S → v = q_w g S → post y S) → B (g 0 12 0) S post) (h : fX12_loop_b373 Bf x1 w2 xn4 xn6 xn7 wn10 wn14 wt0 (q_w g Sn) = some (y, v)) (kk : ∀ S, q_Gd 2 g S0 S → v = q_w g S → post y S) : wX12_loop_b373 B (g 0 12 0) x1 w2 xn4 xn6 xn7 wn10 wn14 wt0 Sn post := by
  unfold wX12_loop_b373; unfold fX12_loop_b373 at h
  exact b_X12_loop_b378 R hB h kk
def fX12_loop_b229 (B : q_V → Option (Int64 × q_V)) (x1 : Int32) (w2 : Int64) (xn4 : Int32) (xn5 : Int32) (xn6 : Int32) (xn7 : Int32) (wt0 : Int64) (Sn : q_V) : Option (Int64 × q_V) :=
  q_bd (fX12_fine Sn) (fun y5002 T5001 =>
  if y5002 = 0 then
  some (0, T5001)
  else
  if (q_i T5001 2445) < 0 ∨ 20 ≤ (q_i T5001 2445).toNatClampNeg then none else
  q_lt (q_sb T5001 2443 ((vp_updL (q_b T5001 2443) ((q_i T5001 2445).toNatClampNeg) w2))) (fun T5004 =>
  if (q_i T5004 2445) < 0 ∨ 20 ≤ (q_i T5004 2445).toNatClampNeg then none else
  q_lt (q_sa T5004 2444 ((upd (q_a T5004 2444) ((q_i T5004 2445).toNatClampNeg) xn4))) (fun T5006 =>
  q_lt (q_si T5006 2445 (((q_i T5006 2445) + 1))) (fun T5007 =>
  q_bd (B T5007) (fun z5009 T5008 =>
  q_bd (fX12_emit 48 0 0 T5008) (fun y5011 T5010 =>
  q_bd (fX12_always B xn4 z5009 T5010) (fun z5013 T5012 =>
  q_lt (q_si T5012 2445 (((q_i T5012 2445) - 1))) (fun T5014 =>
  q_lt (q_si T5014 2441 xn5) (fun T5015 =>
  q_lt (((8 : Int64) <<< ((q_i T5015 2445 : Int32).toInt64 &&& 63)) : Int64) (fun z5016 =>
  q_lt (((1048576 : Int64) <<< ((q_i T5015 2445 : Int32).toInt64 &&& 63)) : Int64) (fun z5017 =>
  q_lt ((wt0 ||| (z5013 &&& (((1 ||| z5016) ||| z5017) ^^^ (- 1)))) : Int64) (fun z5018 =>
  if xn6 = 0 then
  fX12_loop_b373 B x1 w2 xn4 xn6 xn7 z5013 z5017 z5018 T5015
  else
  if (lg_cmp (z5013 &&& ((1 ||| z5016) ||| z5017)) 0) = 0 then
  fX12_loop_b378 B x1 w2 xn4 xn6 xn7 z5013 z5017 0 z5018 T5015
  else
  fX12_loop_b373 B x1 w2 xn4 xn6 xn7 z5013 z5017 z5018 T5015))))))))))))
theorem b_X12_loop_b229 {g : q_G} {S0 : kp_S} {Bf : q_V → Option (Int64 × q_V)} {B : Nat → kp_S → (Int64 → kp_S → Prop) → Prop} {x1 : Int32} {w2 : Int64} {xn4 : Int32} {xn5 : Int32} {xn6 : Int32} {xn7 : Int32} {wt0 : Int64} {Sn : kp_S} {post : Int64 → kp_S → Prop} {y : Int64} {v : q_V} (R : q_Gd 2 g S0 Sn) (hB : ∀ (S : kp_S) (y : Int64) (v : q_V) (post : Int64 → kp_S → Prop), q_Gd 2 g S0 S → Bf (q_w g S) = some (y, v) → (∀ S, q_Gd 2 g S0 S → v = q_w g S → post y S) → B (g 0 12 0) S post) (h : fX12_loop_b229 Bf x1 w2 xn4 xn5 xn6 xn7 wt0 (q_w g Sn) = some (y, v)) (kk : ∀ S, q_Gd 2 g S0 S → v = q_w g S → post y S) : wX12_loop_b229 B (g 0 12 0) x1 w2 xn4 xn5 xn6 xn7 wt0 Sn post := by
  unfold wX12_loop_b229; unfold fX12_loop_b229 at h
  obtain ⟨y5002, v1, h1, h⟩ := q_bdi h
  refine b_X12_fine R h1 (fun T5001 R q => ?_)
  subst q
  refine ⟨fun c => ?_, fun c => ?_⟩
  · replace h := q_ifn h c
    refine ⟨_, q_p2443 R, ?_⟩
    rw [q_l2443 R]
    obtain ⟨hi, h⟩ := q_in h
    refine ⟨hi, ?_⟩
    intro T5004 q
    obtain ⟨R, q⟩ := q_wB R q rfl
    replace h := q_ltw h q
    refine ⟨_, q_p2444 R, ?_⟩
    rw [q_l2444 R]
    obtain ⟨hi, h⟩ := q_in h
    refine ⟨hi, ?_⟩
    intro T5006 q
    obtain ⟨R, q⟩ := q_wA R q rfl
    replace h := q_ltw h q
    intro T5007 q
    obtain ⟨R, q⟩ := q_wI R q rfl rfl
    replace h := q_ltw h q
    obtain ⟨z5009, v1, h1, h⟩ := q_bdi h
    refine hB _ _ _ _ R h1 (fun T5008 R q => ?_)
    subst q
    obtain ⟨y5011, v1, h1, h⟩ := q_bdi h
    refine b_X12_emit R h1 (fun T5010 R q => ?_)
    subst q
    obtain ⟨z5013, v1, h1, h⟩ := q_bdi h
    refine b_X12_always R hB h1 (fun T5012 R q => ?_)
    subst q
    intro T5014 q
    obtain ⟨R, q⟩ := q_wI R q rfl rfl
    replace h := q_ltw h q
    intro T5015 q
    obtain ⟨R, q⟩ := q_wI R q rfl rfl
    replace h := q_ltw h q
    intro z5016 q
    replace h := q_ltw h q
    intro z5017 q
    replace h := q_ltw h q
    intro z5018 q
    replace h := q_ltw h q
    refine ⟨fun c => ?_, fun c => ?_⟩
    · replace h := q_ifp h c
      exact b_X12_loop_b373 R hB h kk
    · replace h := q_ifn h c
      refine ⟨fun c => ?_, fun c => ?_⟩
      · replace h := q_ifp h c
        exact b_X12_loop_b378 R hB h kk
      · replace h := q_ifn h c
        exact b_X12_loop_b373 R hB h kk
  · replace h := q_ifp h c
    exact q_fin h kk R
def fX12_loop_b215 (B : q_V → Option (Int64 × q_V)) (x1 : Int32) (w2 : Int64) (xn4 : Int32) (xn5 : Int32) (xn6 : Int32) (xn7 : Int32) (Sn : q_V) : Option (Int64 × q_V) :=
  if xn6 = 0 then
  q_bd (fX12_risky 0 Sn) (fun z6002 T6001 =>
  fX12_loop_b229 B x1 w2 xn4 xn5 xn6 xn7 z6002 T6001)
  else
  fX12_loop_b229 B x1 w2 xn4 xn5 xn6 xn7 0 Sn
theorem b_X12_loop_b215 {g : q_G} {S0 : kp_S} {Bf : q_V → Option (Int64 × q_V)} {B : Nat → kp_S → (Int64 → kp_S → Prop) → Prop} {x1 : Int32} {w2 : Int64} {xn4 : Int32} {xn5 : Int32} {xn6 : Int32} {xn7 : Int32} {Sn : kp_S} {post : Int64 → kp_S → Prop} {y : Int64} {v : q_V} (R : q_Gd 2 g S0 Sn) (hB : ∀ (S : kp_S) (y : Int64) (v : q_V) (post : Int64 → kp_S → Prop), q_Gd 2 g S0 S → Bf (q_w g S) = some (y, v) → (∀ S, q_Gd 2 g S0 S → v = q_w g S → post y S) → B (g 0 12 0) S post) (h : fX12_loop_b215 Bf x1 w2 xn4 xn5 xn6 xn7 (q_w g Sn) = some (y, v)) (kk : ∀ S, q_Gd 2 g S0 S → v = q_w g S → post y S) : wX12_loop_b215 B (g 0 12 0) x1 w2 xn4 xn5 xn6 xn7 Sn post := by
  unfold wX12_loop_b215; unfold fX12_loop_b215 at h
  refine ⟨fun c => ?_, fun c => ?_⟩
  · replace h := q_ifp h c
    obtain ⟨z6002, v1, h1, h⟩ := q_bdi h
    refine b_X12_risky R h1 (fun T6001 R q => ?_)
    subst q
    exact b_X12_loop_b229 R hB h kk
  · replace h := q_ifn h c
    exact b_X12_loop_b229 R hB h kk
def fX12_loop (B : q_V → Option (Int64 × q_V)) (x1 : Int32) (w2 : Int64) (S : q_V) : Option (Int64 × q_V) :=
  q_bd (fX12_describe x1 S) (fun y2 T1 =>
  q_lt ((q_i T1 2441) : Int32) (fun y3 =>
  q_bd (fX12_is 45 T1) (fun y5 T4 =>
  q_lt ((q_i T4 2417) : Int32) (fun y6 =>
  q_bd (fX12_skip 45 T4) (fun y8 T7 =>
  if y8 = 0 then
  q_bd (fX12_skip 15 T7) (fun y10 T9 =>
  if y10 = 0 then
  q_lt (q_si T9 2410 (((q_i T9 2410) + 1))) (fun T11 =>
  q_lt ((q_i T11 2410) : Int32) (fun y12 =>
  q_bv (fX12_take 2 T11) (fun T13 =>
  q_bv (fX12_take 17 T13) (fun T14 =>
  q_bv (fX12_expression_t T14) (fun T15 =>
  q_bv (fX12_take 18 T15) (fun T16 =>
  q_bv (fX12_expression_t T16) (fun T17 =>
  q_bd (fX12_fine T17) (fun y19 T18 =>
  if y19 = 0 then
  some (0, T18)
  else
  q_bd (fX12_tell y12 T18) (fun y22 T21 =>
  if (y2) < 0 ∨ 640 ≤ (y2).toNatClampNeg then none else
  q_lt (q_sa T21 2422 ((upd (q_a T21 2422) (y2.toNatClampNeg) y22))) (fun T23 =>
  q_bd (fX12_emit 46 y2 0 T23) (fun y25 T24 =>
  if (y2) < 0 ∨ 640 ≤ (y2).toNatClampNeg then none else
  q_lt (q_sa T24 2418 ((upd (q_a T24 2418) (y2.toNatClampNeg) (q_i T24 2417)))) (fun T27 =>
  q_bd (fX12_emit 47 y2 0 T27) (fun y29 T28 =>
  fX12_loop_b215 B x1 w2 y2 y3 y5 y6 T28)))))))))))))
  else
  q_bd (fX12_emit 43 y2 0 T9) (fun y32 T31 =>
  if (y2) < 0 ∨ 640 ≤ (y2).toNatClampNeg then none else
  q_lt (q_sa T31 2418 ((upd (q_a T31 2418) (y2.toNatClampNeg) (q_i T31 2417)))) (fun T34 =>
  if (x1) < 0 ∨ 3002 ≤ (x1).toNatClampNeg then none else
  q_bd (fX12_emit 44 ((q_a T34 2405 x1.toNatClampNeg)) 0 T34) (fun y37 T36 =>
  q_bv (fX12_expression_t T36) (fun T38 =>
  q_bd (fX12_emit 45 y2 0 T38) (fun y40 T39 =>
  fX12_loop_b215 B x1 w2 y2 y3 y5 y6 T39))))))
  else
  q_bd (fX12_emit 43 y2 0 T7) (fun y43 T42 =>
  q_bd (fX12_emit 56 y2 0 T42) (fun y45 T44 =>
  fX12_loop_b215 B x1 w2 y2 y3 y5 y45 T44)))))))
theorem b_X12_loop {g : q_G} {S0 : kp_S} {Bf : q_V → Option (Int64 × q_V)} {B : Nat → kp_S → (Int64 → kp_S → Prop) → Prop} {x1 : Int32} {w2 : Int64} {S : kp_S} {post : Int64 → kp_S → Prop} {y : Int64} {v : q_V} (R : q_Gd 2 g S0 S) (hB : ∀ (S : kp_S) (y : Int64) (v : q_V) (post : Int64 → kp_S → Prop), q_Gd 2 g S0 S → Bf (q_w g S) = some (y, v) → (∀ S, q_Gd 2 g S0 S → v = q_w g S → post y S) → B (g 0 12 0) S post) (h : fX12_loop Bf x1 w2 (q_w g S) = some (y, v)) (kk : ∀ S, q_Gd 2 g S0 S → v = q_w g S → post y S) : wX12_loop B (g 0 12 0) x1 w2 S post := by
  unfold wX12_loop; unfold fX12_loop at h
  obtain ⟨y2, v1, h1, h⟩ := q_bdi h
  refine b_X12_describe R h1 (fun T1 R q => ?_)
  subst q
  intro y3 q
  replace h := q_ltw h q
  obtain ⟨y5, v1, h1, h⟩ := q_bdi h
  refine b_X12_is R h1 (fun T4 R q => ?_)
  subst q
  intro y6 q
  replace h := q_ltw h q
  obtain ⟨y8, v1, h1, h⟩ := q_bdi h
  refine b_X12_skip R h1 (fun T7 R q => ?_)
  subst q
  refine ⟨fun c => ?_, fun c => ?_⟩
  · replace h := q_ifp h c
    obtain ⟨y10, v1, h1, h⟩ := q_bdi h
    refine b_X12_skip R h1 (fun T9 R q => ?_)
    subst q
    refine ⟨fun c => ?_, fun c => ?_⟩
    · replace h := q_ifp h c
      intro T11 q
      obtain ⟨R, q⟩ := q_wI R q rfl rfl
      replace h := q_ltw h q
      intro y12 q
      replace h := q_ltw h q
      obtain ⟨v1, h1, h⟩ := q_bvi h
      refine b_X12_take R h1 (fun T13 R q => ?_)
      subst q
      obtain ⟨v1, h1, h⟩ := q_bvi h
      refine b_X12_take R h1 (fun T14 R q => ?_)
      subst q
      obtain ⟨v1, h1, h⟩ := q_bvi h
      refine b_X12_expression_t R h1 (fun T15 R q => ?_)
      subst q
      obtain ⟨v1, h1, h⟩ := q_bvi h
      refine b_X12_take R h1 (fun T16 R q => ?_)
      subst q
      obtain ⟨v1, h1, h⟩ := q_bvi h
      refine b_X12_expression_t R h1 (fun T17 R q => ?_)
      subst q
      obtain ⟨y19, v1, h1, h⟩ := q_bdi h
      refine b_X12_fine R h1 (fun T18 R q => ?_)
      subst q
      refine ⟨fun c => ?_, fun c => ?_⟩
      · replace h := q_ifn h c
        refine ⟨_, q_p2422 R, ?_⟩
        obtain ⟨y22, v1, h1, h⟩ := q_bdi h
        refine b_X12_tell R h1 (fun T21 R q => ?_)
        subst q
        rw [q_l2422 R]
        obtain ⟨hi, h⟩ := q_in h
        refine ⟨hi, ?_⟩
        intro T23 q
        obtain ⟨R, q⟩ := q_wA R q rfl
        replace h := q_ltw h q
        obtain ⟨y25, v1, h1, h⟩ := q_bdi h
        refine b_X12_emit R h1 (fun T24 R q => ?_)
        subst q
        refine ⟨_, q_p2418 R, ?_⟩
        rw [q_l2418 R]
        obtain ⟨hi, h⟩ := q_in h
        refine ⟨hi, ?_⟩
        intro T27 q
        obtain ⟨R, q⟩ := q_wA R q rfl
        replace h := q_ltw h q
        obtain ⟨y29, v1, h1, h⟩ := q_bdi h
        refine b_X12_emit R h1 (fun T28 R q => ?_)
        subst q
        exact b_X12_loop_b215 R hB h kk
      · replace h := q_ifp h c
        exact q_fin h kk R
    · replace h := q_ifn h c
      obtain ⟨y32, v1, h1, h⟩ := q_bdi h
      refine b_X12_emit R h1 (fun T31 R q => ?_)
      subst q
      refine ⟨_, q_p2418 R, ?_⟩
      rw [q_l2418 R]
      obtain ⟨hi, h⟩ := q_in h
      refine ⟨hi, ?_⟩
      intro T34 q
      obtain ⟨R, q⟩ := q_wA R q rfl
      replace h := q_ltw h q
      refine ⟨_, q_p2405 R, ?_⟩
      rw [q_l2405 R]
      obtain ⟨hi, h⟩ := q_in h
      refine ⟨hi, ?_⟩
      obtain ⟨y37, v1, h1, h⟩ := q_bdi h
      refine b_X12_emit R h1 (fun T36 R q => ?_)
      subst q
      obtain ⟨v1, h1, h⟩ := q_bvi h
      refine b_X12_expression_t R h1 (fun T38 R q => ?_)
      subst q
      obtain ⟨y40, v1, h1, h⟩ := q_bdi h
      refine b_X12_emit R h1 (fun T39 R q => ?_)
      subst q
      exact b_X12_loop_b215 R hB h kk
  · replace h := q_ifn h c
    obtain ⟨y43, v1, h1, h⟩ := q_bdi h
    refine b_X12_emit R h1 (fun T42 R q => ?_)
    subst q
    obtain ⟨y45, v1, h1, h⟩ := q_bdi h
    refine b_X12_emit R h1 (fun T44 R q => ?_)
    subst q
    exact b_X12_loop_b215 R hB h kk
def fX12_choice_b100 (B : q_V → Option (Int64 × q_V)) (wn1 : Int64) (Sn : q_V) : Option (Int64 × q_V) :=
  some (wn1, Sn)
theorem b_X12_choice_b100 {g : q_G} {S0 : kp_S} {Bf : q_V → Option (Int64 × q_V)} {B : Nat → kp_S → (Int64 → kp_S → Prop) → Prop} {wn1 : Int64} {Sn : kp_S} {post : Int64 → kp_S → Prop} {y : Int64} {v : q_V} (R : q_Gd 2 g S0 Sn) (hB : ∀ (S : kp_S) (y : Int64) (v : q_V) (post : Int64 → kp_S → Prop), q_Gd 2 g S0 S → Bf (q_w g S) = some (y, v) → (∀ S, q_Gd 2 g S0 S → v = q_w g S → post y S) → B (g 0 12 0) S post) (h : fX12_choice_b100 Bf wn1 (q_w g Sn) = some (y, v)) (kk : ∀ S, q_Gd 2 g S0 S → v = q_w g S → post y S) : wX12_choice_b100 B (g 0 12 0) wn1 Sn post := by
  unfold wX12_choice_b100; unfold fX12_choice_b100 at h
  exact q_fin h kk R
def fX12_choice (B : q_V → Option (Int64 × q_V)) (S : q_V) : Option (Int64 × q_V) :=
  q_lt (q_si S 2410 (((q_i S 2410) + 1))) (fun T1 =>
  q_bv (fX12_expression_t T1) (fun T2 =>
  q_bd (fX12_risky 0 T2) (fun z4 T3 =>
  q_bd (fX12_emit 42 0 0 T3) (fun y6 T5 =>
  q_bd (B T5) (fun z8 T7 =>
  q_lt ((z4 ||| z8) : Int64) (fun z9 =>
  q_bd (fX12_skip 14 T7) (fun y11 T10 =>
  if y11 = 0 then
  q_lt ((z9 ||| 1) : Int64) (fun z12 =>
  if (y6) < 0 ∨ 4000 ≤ (y6).toNatClampNeg then none else
  q_lt (q_sa T10 2415 ((upd (q_a T10 2415) (y6.toNatClampNeg) (q_i T10 2417)))) (fun T14 =>
  fX12_choice_b100 B z12 T14))
  else
  q_bd (fX12_emit 41 0 0 T10) (fun y16 T15 =>
  if (y6) < 0 ∨ 4000 ≤ (y6).toNatClampNeg then none else
  q_lt (q_sa T15 2415 ((upd (q_a T15 2415) (y6.toNatClampNeg) (q_i T15 2417)))) (fun T18 =>
  q_bd (B T18) (fun z20 T19 =>
  q_lt ((z9 ||| z20) : Int64) (fun z21 =>
  if (y16) < 0 ∨ 4000 ≤ (y16).toNatClampNeg then none else
  q_lt (q_sa T19 2415 ((upd (q_a T19 2415) (y16.toNatClampNeg) (q_i T19 2417)))) (fun T23 =>
  fX12_choice_b100 B z21 T23))))))))))))
theorem b_X12_choice {g : q_G} {S0 : kp_S} {Bf : q_V → Option (Int64 × q_V)} {B : Nat → kp_S → (Int64 → kp_S → Prop) → Prop} {S : kp_S} {post : Int64 → kp_S → Prop} {y : Int64} {v : q_V} (R : q_Gd 2 g S0 S) (hB : ∀ (S : kp_S) (y : Int64) (v : q_V) (post : Int64 → kp_S → Prop), q_Gd 2 g S0 S → Bf (q_w g S) = some (y, v) → (∀ S, q_Gd 2 g S0 S → v = q_w g S → post y S) → B (g 0 12 0) S post) (h : fX12_choice Bf (q_w g S) = some (y, v)) (kk : ∀ S, q_Gd 2 g S0 S → v = q_w g S → post y S) : wX12_choice B (g 0 12 0) S post := by
  unfold wX12_choice; unfold fX12_choice at h
  intro T1 q
  obtain ⟨R, q⟩ := q_wI R q rfl rfl
  replace h := q_ltw h q
  obtain ⟨v1, h1, h⟩ := q_bvi h
  refine b_X12_expression_t R h1 (fun T2 R q => ?_)
  subst q
  obtain ⟨z4, v1, h1, h⟩ := q_bdi h
  refine b_X12_risky R h1 (fun T3 R q => ?_)
  subst q
  obtain ⟨y6, v1, h1, h⟩ := q_bdi h
  refine b_X12_emit R h1 (fun T5 R q => ?_)
  subst q
  obtain ⟨z8, v1, h1, h⟩ := q_bdi h
  refine hB _ _ _ _ R h1 (fun T7 R q => ?_)
  subst q
  intro z9 q
  replace h := q_ltw h q
  obtain ⟨y11, v1, h1, h⟩ := q_bdi h
  refine b_X12_skip R h1 (fun T10 R q => ?_)
  subst q
  refine ⟨fun c => ?_, fun c => ?_⟩
  · replace h := q_ifp h c
    intro z12 q
    replace h := q_ltw h q
    refine ⟨_, q_p2415 R, ?_⟩
    rw [q_l2415 R]
    obtain ⟨hi, h⟩ := q_in h
    refine ⟨hi, ?_⟩
    intro T14 q
    obtain ⟨R, q⟩ := q_wA R q rfl
    replace h := q_ltw h q
    exact b_X12_choice_b100 R hB h kk
  · replace h := q_ifn h c
    obtain ⟨y16, v1, h1, h⟩ := q_bdi h
    refine b_X12_emit R h1 (fun T15 R q => ?_)
    subst q
    refine ⟨_, q_p2415 R, ?_⟩
    rw [q_l2415 R]
    obtain ⟨hi, h⟩ := q_in h
    refine ⟨hi, ?_⟩
    intro T18 q
    obtain ⟨R, q⟩ := q_wA R q rfl
    replace h := q_ltw h q
    obtain ⟨z20, v1, h1, h⟩ := q_bdi h
    refine hB _ _ _ _ R h1 (fun T19 R q => ?_)
    subst q
    intro z21 q
    replace h := q_ltw h q
    refine ⟨_, q_p2415 R, ?_⟩
    rw [q_l2415 R]
    obtain ⟨hi, h⟩ := q_in h
    refine ⟨hi, ?_⟩
    intro T23 q
    obtain ⟨R, q⟩ := q_wA R q rfl
    replace h := q_ltw h q
    exact b_X12_choice_b100 R hB h kk
def fX12_choose_b276 (B : q_V → Option (Int64 × q_V)) (wn1 : Int64) (xn3 : Int32) (xn5 : Int32) (K222 : Int64 → Int32 → Int32 → q_V → Option (Int64 × q_V)) (Sn : q_V) : Option (Int64 × q_V) :=
  q_lt (xn5 + 1 : Int32) (fun y1001 =>
  K222 wn1 xn3 y1001 Sn)
theorem b_X12_choose_b276 {g : q_G} {S0 : kp_S} {Bf : q_V → Option (Int64 × q_V)} {B : Nat → kp_S → (Int64 → kp_S → Prop) → Prop} {wn1 : Int64} {xn3 : Int32} {xn5 : Int32} {K222f : Int64 → Int32 → Int32 → q_V → Option (Int64 × q_V)} {K222 : Int64 → Int32 → Int32 → kp_S → Prop} {Sn : kp_S} {post : Int64 → kp_S → Prop} {y : Int64} {v : q_V} (R : q_Gd 2 g S0 Sn) (hB : ∀ (S : kp_S) (y : Int64) (v : q_V) (post : Int64 → kp_S → Prop), q_Gd 2 g S0 S → Bf (q_w g S) = some (y, v) → (∀ S, q_Gd 2 g S0 S → v = q_w g S → post y S) → B (g 0 12 0) S post) (hK222 : ∀ (x0 : Int64) (x1 : Int32) (x2 : Int32) (S : kp_S), q_Gd 2 g S0 S → K222f x0 x1 x2 (q_w g S) = some (y, v) → K222 x0 x1 x2 S) (h : fX12_choose_b276 Bf wn1 xn3 xn5 K222f (q_w g Sn) = some (y, v)) (kk : ∀ S, q_Gd 2 g S0 S → v = q_w g S → post y S) : wX12_choose_b276 B (g 0 12 0) wn1 xn3 xn5 K222 Sn post := by
  unfold wX12_choose_b276; unfold fX12_choose_b276 at h
  intro y1001 q
  replace h := q_ltw h q
  exact hK222 _ _ _ _ R h
def fX12_choose_L222 (B : q_V → Option (Int64 × q_V)) : Nat → Int64 → Int32 → Int32 → q_V → Option (Int64 × q_V)
  | 0, _, _, _, _ => none
  | n + 1, wn1, xn3, xn5, Sn =>
  if (q_i Sn 2417) ≤ xn5 then
  some (wn1, Sn)
  else
  if (xn5) < 0 ∨ 4000 ≤ (xn5).toNatClampNeg then none else
  if (q_a Sn 2414 xn5.toNatClampNeg) = 41 then
  if (xn5) < 0 ∨ 4000 ≤ (xn5).toNatClampNeg then none else
  if (q_a Sn 2415 xn5.toNatClampNeg) = (- 1) then
  if (xn5) < 0 ∨ 4000 ≤ (xn5).toNatClampNeg then none else
  if (q_a Sn 2416 xn5.toNatClampNeg) = xn3 then
  if (xn5) < 0 ∨ 4000 ≤ (xn5).toNatClampNeg then none else
  q_lt (q_sa Sn 2415 ((upd (q_a Sn 2415) (xn5.toNatClampNeg) (q_i Sn 2417)))) (fun T2004 =>
  fX12_choose_b276 B wn1 xn3 xn5 (fun wn1_ xn3_ xn5_ S_ => fX12_choose_L222 B n wn1_ xn3_ xn5_ S_) T2004)
  else
  fX12_choose_b276 B wn1 xn3 xn5 (fun wn1_ xn3_ xn5_ S_ => fX12_choose_L222 B n wn1_ xn3_ xn5_ S_) Sn
  else
  fX12_choose_b276 B wn1 xn3 xn5 (fun wn1_ xn3_ xn5_ S_ => fX12_choose_L222 B n wn1_ xn3_ xn5_ S_) Sn
  else
  fX12_choose_b276 B wn1 xn3 xn5 (fun wn1_ xn3_ xn5_ S_ => fX12_choose_L222 B n wn1_ xn3_ xn5_ S_) Sn
theorem b_X12_choose_L222 {g : q_G} {S0 : kp_S} {Bf : q_V → Option (Int64 × q_V)} {B : Nat → kp_S → (Int64 → kp_S → Prop) → Prop} {post : Int64 → kp_S → Prop} {y : Int64} {v : q_V} (hB : ∀ (S : kp_S) (y : Int64) (v : q_V) (post : Int64 → kp_S → Prop), q_Gd 2 g S0 S → Bf (q_w g S) = some (y, v) → (∀ S, q_Gd 2 g S0 S → v = q_w g S → post y S) → B (g 0 12 0) S post) (kk : ∀ S, q_Gd 2 g S0 S → v = q_w g S → post y S) : ∀ (n : Nat) (wn1 : Int64) (xn3 : Int32) (xn5 : Int32) (Sn : kp_S), q_Gd 2 g S0 Sn → fX12_choose_L222 Bf n wn1 xn3 xn5 (q_w g Sn) = some (y, v) → wX12_choose_L222 B (g 0 12 0) post n wn1 xn3 xn5 Sn := by
  intro n
  induction n with
  | zero => intro wn1 xn3 xn5 Sn _ h; cases h
  | succ n ih =>
    intro wn1 xn3 xn5 Sn R h
    unfold wX12_choose_L222; unfold fX12_choose_L222 at h
    refine ⟨fun c => ?_, fun c => ?_⟩
    · replace h := q_ifp h c
      exact q_fin h kk R
    · replace h := q_ifn h c
      refine ⟨_, q_p2414 R, ?_⟩
      rw [q_l2414 R]
      obtain ⟨hi, h⟩ := q_in h
      refine ⟨hi, ?_⟩
      refine ⟨fun c => ?_, fun c => ?_⟩
      · replace h := q_ifn h c
        exact b_X12_choose_b276 R hB (fun wn1_ xn3_ xn5_ S_ R h => ih wn1_ xn3_ xn5_ S_ R h) h kk
      · replace h := q_ifp h c
        refine ⟨_, q_p2415 R, ?_⟩
        rw [q_l2415 R]
        obtain ⟨hi, h⟩ := q_in h
        refine ⟨hi, ?_⟩
        refine ⟨fun c => ?_, fun c => ?_⟩
        · replace h := q_ifn h c
          exact b_X12_choose_b276 R hB (fun wn1_ xn3_ xn5_ S_ R h => ih wn1_ xn3_ xn5_ S_ R h) h kk
        · replace h := q_ifp h c
          refine ⟨_, q_p2416 R, ?_⟩
          rw [q_l2416 R]
          obtain ⟨hi, h⟩ := q_in h
          refine ⟨hi, ?_⟩
          refine ⟨fun c => ?_, fun c => ?_⟩
          · replace h := q_ifn h c
            exact b_X12_choose_b276 R hB (fun wn1_ xn3_ xn5_ S_ R h => ih wn1_ xn3_ xn5_ S_ R h) h kk
          · replace h := q_ifp h c
            obtain ⟨hi, h⟩ := q_in h
            refine ⟨hi, ?_⟩
            intro T2004 q
            obtain ⟨R, q⟩ := q_wA R q rfl
            replace h := q_ltw h q
            exact b_X12_choose_b276 R hB (fun wn1_ xn3_ xn5_ S_ R h => ih wn1_ xn3_ xn5_ S_ R h) h kk
def fX12_choose_b203 (B : q_V → Option (Int64 × q_V)) (wn1 : Int64) (xn3 : Int32) (Sn : q_V) : Option (Int64 × q_V) :=
  q_bv (fX12_takeSign 125 Sn) (fun T3001 =>
  q_lt (q_si T3001 2411 (((q_i T3001 2411) - 1))) (fun T3002 =>
  fX12_choose_L222 B q_N wn1 xn3 xn3 T3002))
theorem b_X12_choose_b203 {g : q_G} {S0 : kp_S} {Bf : q_V → Option (Int64 × q_V)} {B : Nat → kp_S → (Int64 → kp_S → Prop) → Prop} {wn1 : Int64} {xn3 : Int32} {Sn : kp_S} {post : Int64 → kp_S → Prop} {y : Int64} {v : q_V} (R : q_Gd 2 g S0 Sn) (hB : ∀ (S : kp_S) (y : Int64) (v : q_V) (post : Int64 → kp_S → Prop), q_Gd 2 g S0 S → Bf (q_w g S) = some (y, v) → (∀ S, q_Gd 2 g S0 S → v = q_w g S → post y S) → B (g 0 12 0) S post) (h : fX12_choose_b203 Bf wn1 xn3 (q_w g Sn) = some (y, v)) (kk : ∀ S, q_Gd 2 g S0 S → v = q_w g S → post y S) : wX12_choose_b203 B (g 0 12 0) wn1 xn3 Sn post := by
  unfold wX12_choose_b203; unfold fX12_choose_b203 at h
  obtain ⟨v1, h1, h⟩ := q_bvi h
  refine b_X12_takeSign R h1 (fun T3001 R q => ?_)
  subst q
  intro T3002 q
  obtain ⟨R, q⟩ := q_wI R q rfl rfl
  replace h := q_ltw h q
  exact ⟨q_N, b_X12_choose_L222 hB kk q_N _ _ _ _ R h⟩
def fX12_choose_b190 (B : q_V → Option (Int64 × q_V)) (xn3 : Int32) (wt0 : Int64) (Sn : q_V) : Option (Int64 × q_V) :=
  fX12_choose_b203 B wt0 xn3 Sn
theorem b_X12_choose_b190 {g : q_G} {S0 : kp_S} {Bf : q_V → Option (Int64 × q_V)} {B : Nat → kp_S → (Int64 → kp_S → Prop) → Prop} {xn3 : Int32} {wt0 : Int64} {Sn : kp_S} {post : Int64 → kp_S → Prop} {y : Int64} {v : q_V} (R : q_Gd 2 g S0 Sn) (hB : ∀ (S : kp_S) (y : Int64) (v : q_V) (post : Int64 → kp_S → Prop), q_Gd 2 g S0 S → Bf (q_w g S) = some (y, v) → (∀ S, q_Gd 2 g S0 S → v = q_w g S → post y S) → B (g 0 12 0) S post) (h : fX12_choose_b190 Bf xn3 wt0 (q_w g Sn) = some (y, v)) (kk : ∀ S, q_Gd 2 g S0 S → v = q_w g S → post y S) : wX12_choose_b190 B (g 0 12 0) xn3 wt0 Sn post := by
  unfold wX12_choose_b190; unfold fX12_choose_b190 at h
  exact b_X12_choose_b203 R hB h kk
def fX12_choose_b129 (B : q_V → Option (Int64 × q_V)) (wn1 : Int64) (xn3 : Int32) (xn6 : Int32) (xt0 : Int32) (K47 : Int64 → Int32 → Int32 → q_V → Option (Int64 × q_V)) (Sn : q_V) : Option (Int64 × q_V) :=
  q_bd (fX12_emit 41 ((- 1)) xn3 Sn) (fun y5002 T5001 =>
  if (xn6) < 0 ∨ 4000 ≤ (xn6).toNatClampNeg then none else
  q_lt (q_sa T5001 2415 ((upd (q_a T5001 2415) (xn6.toNatClampNeg) (q_i T5001 2417)))) (fun T5004 =>
  K47 wn1 xn3 xt0 T5004))
theorem b_X12_choose_b129 {g : q_G} {S0 : kp_S} {Bf : q_V → Option (Int64 × q_V)} {B : Nat → kp_S → (Int64 → kp_S → Prop) → Prop} {wn1 : Int64} {xn3 : Int32} {xn6 : Int32} {xt0 : Int32} {K47f : Int64 → Int32 → Int32 → q_V → Option (Int64 × q_V)} {K47 : Int64 → Int32 → Int32 → kp_S → Prop} {Sn : kp_S} {post : Int64 → kp_S → Prop} {y : Int64} {v : q_V} (R : q_Gd 2 g S0 Sn) (hB : ∀ (S : kp_S) (y : Int64) (v : q_V) (post : Int64 → kp_S → Prop), q_Gd 2 g S0 S → Bf (q_w g S) = some (y, v) → (∀ S, q_Gd 2 g S0 S → v = q_w g S → post y S) → B (g 0 12 0) S post) (hK47 : ∀ (x0 : Int64) (x1 : Int32) (x2 : Int32) (S : kp_S), q_Gd 2 g S0 S → K47f x0 x1 x2 (q_w g S) = some (y, v) → K47 x0 x1 x2 S) (h : fX12_choose_b129 Bf wn1 xn3 xn6 xt0 K47f (q_w g Sn) = some (y, v)) (kk : ∀ S, q_Gd 2 g S0 S → v = q_w g S → post y S) : wX12_choose_b129 B (g 0 12 0) wn1 xn3 xn6 xt0 K47 Sn post := by
  unfold wX12_choose_b129; unfold fX12_choose_b129 at h
  obtain ⟨y5002, v1, h1, h⟩ := q_bdi h
  refine b_X12_emit R h1 (fun T5001 R q => ?_)
  subst q
  refine ⟨_, q_p2415 R, ?_⟩
  rw [q_l2415 R]
  obtain ⟨hi, h⟩ := q_in h
  refine ⟨hi, ?_⟩
  intro T5004 q
  obtain ⟨R, q⟩ := q_wA R q rfl
  replace h := q_ltw h q
  exact hK47 _ _ _ _ R h
def fX12_choose_b124 (B : q_V → Option (Int64 × q_V)) (wn1 : Int64) (xn3 : Int32) (xn6 : Int32) (K47 : Int64 → Int32 → Int32 → q_V → Option (Int64 × q_V)) (Sn : q_V) : Option (Int64 × q_V) :=
  fX12_choose_b129 B wn1 xn3 xn6 1 K47 Sn
theorem b_X12_choose_b124 {g : q_G} {S0 : kp_S} {Bf : q_V → Option (Int64 × q_V)} {B : Nat → kp_S → (Int64 → kp_S → Prop) → Prop} {wn1 : Int64} {xn3 : Int32} {xn6 : Int32} {K47f : Int64 → Int32 → Int32 → q_V → Option (Int64 × q_V)} {K47 : Int64 → Int32 → Int32 → kp_S → Prop} {Sn : kp_S} {post : Int64 → kp_S → Prop} {y : Int64} {v : q_V} (R : q_Gd 2 g S0 Sn) (hB : ∀ (S : kp_S) (y : Int64) (v : q_V) (post : Int64 → kp_S → Prop), q_Gd 2 g S0 S → Bf (q_w g S) = some (y, v) → (∀ S, q_Gd 2 g S0 S → v = q_w g S → post y S) → B (g 0 12 0) S post) (hK47 : ∀ (x0 : Int64) (x1 : Int32) (x2 : Int32) (S : kp_S), q_Gd 2 g S0 S → K47f x0 x1 x2 (q_w g S) = some (y, v) → K47 x0 x1 x2 S) (h : fX12_choose_b124 Bf wn1 xn3 xn6 K47f (q_w g Sn) = some (y, v)) (kk : ∀ S, q_Gd 2 g S0 S → v = q_w g S → post y S) : wX12_choose_b124 B (g 0 12 0) wn1 xn3 xn6 K47 Sn post := by
  unfold wX12_choose_b124; unfold fX12_choose_b124 at h
  exact b_X12_choose_b129 R hB hK47 h kk
def fX12_choose_b113 (B : q_V → Option (Int64 × q_V)) (xn3 : Int32) (xn4 : Int32) (xn5 : Int32) (xn6 : Int32) (wt0 : Int64) (K47 : Int64 → Int32 → Int32 → q_V → Option (Int64 × q_V)) (Sn : q_V) : Option (Int64 × q_V) :=
  if xn4 = 0 then
  if xn5 = 0 then
  fX12_choose_b129 B wt0 xn3 xn6 0 K47 Sn
  else
  fX12_choose_b124 B wt0 xn3 xn6 K47 Sn
  else
  fX12_choose_b124 B wt0 xn3 xn6 K47 Sn
theorem b_X12_choose_b113 {g : q_G} {S0 : kp_S} {Bf : q_V → Option (Int64 × q_V)} {B : Nat → kp_S → (Int64 → kp_S → Prop) → Prop} {xn3 : Int32} {xn4 : Int32} {xn5 : Int32} {xn6 : Int32} {wt0 : Int64} {K47f : Int64 → Int32 → Int32 → q_V → Option (Int64 × q_V)} {K47 : Int64 → Int32 → Int32 → kp_S → Prop} {Sn : kp_S} {post : Int64 → kp_S → Prop} {y : Int64} {v : q_V} (R : q_Gd 2 g S0 Sn) (hB : ∀ (S : kp_S) (y : Int64) (v : q_V) (post : Int64 → kp_S → Prop), q_Gd 2 g S0 S → Bf (q_w g S) = some (y, v) → (∀ S, q_Gd 2 g S0 S → v = q_w g S → post y S) → B (g 0 12 0) S post) (hK47 : ∀ (x0 : Int64) (x1 : Int32) (x2 : Int32) (S : kp_S), q_Gd 2 g S0 S → K47f x0 x1 x2 (q_w g S) = some (y, v) → K47 x0 x1 x2 S) (h : fX12_choose_b113 Bf xn3 xn4 xn5 xn6 wt0 K47f (q_w g Sn) = some (y, v)) (kk : ∀ S, q_Gd 2 g S0 S → v = q_w g S → post y S) : wX12_choose_b113 B (g 0 12 0) xn3 xn4 xn5 xn6 wt0 K47 Sn post := by
  unfold wX12_choose_b113; unfold fX12_choose_b113 at h
  refine ⟨fun c => ?_, fun c => ?_⟩
  · replace h := q_ifn h c
    exact b_X12_choose_b124 R hB hK47 h kk
  · replace h := q_ifp h c
    refine ⟨fun c => ?_, fun c => ?_⟩
    · replace h := q_ifp h c
      exact b_X12_choose_b129 R hB hK47 h kk
    · replace h := q_ifn h c
      exact b_X12_choose_b124 R hB hK47 h kk
def fX12_choose_b93 (B : q_V → Option (Int64 × q_V)) (xn3 : Int32) (xn4 : Int32) (xn5 : Int32) (xn6 : Int32) (wt0 : Int64) (K47 : Int64 → Int32 → Int32 → q_V → Option (Int64 × q_V)) (Sn : q_V) : Option (Int64 × q_V) :=
  q_bd (B Sn) (fun z8002 T8001 =>
  if xn4 = 0 then
  fX12_choose_b113 B xn3 xn4 xn5 xn6 ((wt0 ||| z8002)) K47 T8001
  else
  fX12_choose_b113 B xn3 xn4 xn5 xn6 wt0 K47 T8001)
theorem b_X12_choose_b93 {g : q_G} {S0 : kp_S} {Bf : q_V → Option (Int64 × q_V)} {B : Nat → kp_S → (Int64 → kp_S → Prop) → Prop} {xn3 : Int32} {xn4 : Int32} {xn5 : Int32} {xn6 : Int32} {wt0 : Int64} {K47f : Int64 → Int32 → Int32 → q_V → Option (Int64 × q_V)} {K47 : Int64 → Int32 → Int32 → kp_S → Prop} {Sn : kp_S} {post : Int64 → kp_S → Prop} {y : Int64} {v : q_V} (R : q_Gd 2 g S0 Sn) (hB : ∀ (S : kp_S) (y : Int64) (v : q_V) (post : Int64 → kp_S → Prop), q_Gd 2 g S0 S → Bf (q_w g S) = some (y, v) → (∀ S, q_Gd 2 g S0 S → v = q_w g S → post y S) → B (g 0 12 0) S post) (hK47 : ∀ (x0 : Int64) (x1 : Int32) (x2 : Int32) (S : kp_S), q_Gd 2 g S0 S → K47f x0 x1 x2 (q_w g S) = some (y, v) → K47 x0 x1 x2 S) (h : fX12_choose_b93 Bf xn3 xn4 xn5 xn6 wt0 K47f (q_w g Sn) = some (y, v)) (kk : ∀ S, q_Gd 2 g S0 S → v = q_w g S → post y S) : wX12_choose_b93 B (g 0 12 0) xn3 xn4 xn5 xn6 wt0 K47 Sn post := by
  unfold wX12_choose_b93; unfold fX12_choose_b93 at h
  obtain ⟨z8002, v1, h1, h⟩ := q_bdi h
  refine hB _ _ _ _ R h1 (fun T8001 R q => ?_)
  subst q
  refine ⟨fun c => ?_, fun c => ?_⟩
  · replace h := q_ifp h c
    exact b_X12_choose_b113 R hB hK47 h kk
  · replace h := q_ifn h c
    exact b_X12_choose_b113 R hB hK47 h kk
def fX12_choose_L47 (B : q_V → Option (Int64 × q_V)) : Nat → Int64 → Int32 → Int32 → q_V → Option (Int64 × q_V)
  | 0, _, _, _, _ => none
  | n + 1, wn1, xn3, xn4, Sn =>
  q_bd (fX12_skip 48 Sn) (fun y9002 T9001 =>
  if y9002 = 0 then
  q_bd (fX12_emit 4 0 0 T9001) (fun y9004 T9003 =>
  q_bd (fX12_skip 49 T9003) (fun y9006 T9005 =>
  if y9006 = 0 then
  if xn4 = 0 then
  q_lt ((wn1 ||| 1) : Int64) (fun z9007 =>
  fX12_choose_b203 B z9007 xn3 T9005)
  else
  fX12_choose_b203 B wn1 xn3 T9005
  else
  q_bd (B T9005) (fun z9010 T9009 =>
  if xn4 = 0 then
  fX12_choose_b190 B xn3 ((wn1 ||| z9010)) T9009
  else
  fX12_choose_b190 B xn3 wn1 T9009)))
  else
  q_bd (fX12_is 26 T9001) (fun y9014 T9013 =>
  q_lt (q_si T9013 2425 0) (fun T9015 =>
  q_bd (fX12_list 59 58 T9015) (fun y9017 T9016 =>
  if xn4 = 0 then
  q_bd (fX12_risky wn1 T9016) (fun z9019 T9018 =>
  fX12_choose_b93 B xn3 xn4 y9014 y9017 z9019 (fun wn1_ xn3_ xn4_ S_ => fX12_choose_L47 B n wn1_ xn3_ xn4_ S_) T9018)
  else
  fX12_choose_b93 B xn3 xn4 y9014 y9017 wn1 (fun wn1_ xn3_ xn4_ S_ => fX12_choose_L47 B n wn1_ xn3_ xn4_ S_) T9016))))
theorem b_X12_choose_L47 {g : q_G} {S0 : kp_S} {Bf : q_V → Option (Int64 × q_V)} {B : Nat → kp_S → (Int64 → kp_S → Prop) → Prop} {post : Int64 → kp_S → Prop} {y : Int64} {v : q_V} (hB : ∀ (S : kp_S) (y : Int64) (v : q_V) (post : Int64 → kp_S → Prop), q_Gd 2 g S0 S → Bf (q_w g S) = some (y, v) → (∀ S, q_Gd 2 g S0 S → v = q_w g S → post y S) → B (g 0 12 0) S post) (kk : ∀ S, q_Gd 2 g S0 S → v = q_w g S → post y S) : ∀ (n : Nat) (wn1 : Int64) (xn3 : Int32) (xn4 : Int32) (Sn : kp_S), q_Gd 2 g S0 Sn → fX12_choose_L47 Bf n wn1 xn3 xn4 (q_w g Sn) = some (y, v) → wX12_choose_L47 B (g 0 12 0) post n wn1 xn3 xn4 Sn := by
  intro n
  induction n with
  | zero => intro wn1 xn3 xn4 Sn _ h; cases h
  | succ n ih =>
    intro wn1 xn3 xn4 Sn R h
    unfold wX12_choose_L47; unfold fX12_choose_L47 at h
    obtain ⟨y9002, v1, h1, h⟩ := q_bdi h
    refine b_X12_skip R h1 (fun T9001 R q => ?_)
    subst q
    refine ⟨fun c => ?_, fun c => ?_⟩
    · replace h := q_ifp h c
      obtain ⟨y9004, v1, h1, h⟩ := q_bdi h
      refine b_X12_emit R h1 (fun T9003 R q => ?_)
      subst q
      obtain ⟨y9006, v1, h1, h⟩ := q_bdi h
      refine b_X12_skip R h1 (fun T9005 R q => ?_)
      subst q
      refine ⟨fun c => ?_, fun c => ?_⟩
      · replace h := q_ifp h c
        refine ⟨fun c => ?_, fun c => ?_⟩
        · replace h := q_ifn h c
          exact b_X12_choose_b203 R hB h kk
        · replace h := q_ifp h c
          intro z9007 q
          replace h := q_ltw h q
          exact b_X12_choose_b203 R hB h kk
      · replace h := q_ifn h c
        obtain ⟨z9010, v1, h1, h⟩ := q_bdi h
        refine hB _ _ _ _ R h1 (fun T9009 R q => ?_)
        subst q
        refine ⟨fun c => ?_, fun c => ?_⟩
        · replace h := q_ifp h c
          exact b_X12_choose_b190 R hB h kk
        · replace h := q_ifn h c
          exact b_X12_choose_b190 R hB h kk
    · replace h := q_ifn h c
      obtain ⟨y9014, v1, h1, h⟩ := q_bdi h
      refine b_X12_is R h1 (fun T9013 R q => ?_)
      subst q
      intro T9015 q
      obtain ⟨R, q⟩ := q_wI R q rfl rfl
      replace h := q_ltw h q
      obtain ⟨y9017, v1, h1, h⟩ := q_bdi h
      refine b_X12_list R h1 (fun T9016 R q => ?_)
      subst q
      refine ⟨fun c => ?_, fun c => ?_⟩
      · replace h := q_ifp h c
        obtain ⟨z9019, v1, h1, h⟩ := q_bdi h
        refine b_X12_risky R h1 (fun T9018 R q => ?_)
        subst q
        exact b_X12_choose_b93 R hB (fun wn1_ xn3_ xn4_ S_ R h => ih wn1_ xn3_ xn4_ S_ R h) h kk
      · replace h := q_ifn h c
        exact b_X12_choose_b93 R hB (fun wn1_ xn3_ xn4_ S_ R h => ih wn1_ xn3_ xn4_ S_ R h) h kk
def fX12_choose (B : q_V → Option (Int64 × q_V)) (S : q_V) : Option (Int64 × q_V) :=
  q_lt (q_si S 2410 (((q_i S 2410) + 1))) (fun T1 =>
  q_bv (fX12_expression_t T1) (fun T2 =>
  q_bd (fX12_risky 0 T2) (fun z4 T3 =>
  q_bd (fX12_isSign 123 T3) (fun y6 T5 =>
  if y6 = 0 then
  q_bv (fX12_wrong T5) (fun T9 =>
  some (0, T9))
  else
  q_bv (fX12_nest T5) (fun T7 =>
  q_lt ((q_i T7 2417) : Int32) (fun y8 =>
  fX12_choose_L47 B q_N z4 y8 0 T7))))))
theorem b_X12_choose {g : q_G} {S0 : kp_S} {Bf : q_V → Option (Int64 × q_V)} {B : Nat → kp_S → (Int64 → kp_S → Prop) → Prop} {S : kp_S} {post : Int64 → kp_S → Prop} {y : Int64} {v : q_V} (R : q_Gd 2 g S0 S) (hB : ∀ (S : kp_S) (y : Int64) (v : q_V) (post : Int64 → kp_S → Prop), q_Gd 2 g S0 S → Bf (q_w g S) = some (y, v) → (∀ S, q_Gd 2 g S0 S → v = q_w g S → post y S) → B (g 0 12 0) S post) (h : fX12_choose Bf (q_w g S) = some (y, v)) (kk : ∀ S, q_Gd 2 g S0 S → v = q_w g S → post y S) : wX12_choose B (g 0 12 0) S post := by
  unfold wX12_choose; unfold fX12_choose at h
  intro T1 q
  obtain ⟨R, q⟩ := q_wI R q rfl rfl
  replace h := q_ltw h q
  obtain ⟨v1, h1, h⟩ := q_bvi h
  refine b_X12_expression_t R h1 (fun T2 R q => ?_)
  subst q
  obtain ⟨z4, v1, h1, h⟩ := q_bdi h
  refine b_X12_risky R h1 (fun T3 R q => ?_)
  subst q
  obtain ⟨y6, v1, h1, h⟩ := q_bdi h
  refine b_X12_isSign R h1 (fun T5 R q => ?_)
  subst q
  refine ⟨fun c => ?_, fun c => ?_⟩
  · replace h := q_ifn h c
    obtain ⟨v1, h1, h⟩ := q_bvi h
    refine b_X12_nest R h1 (fun T7 R q => ?_)
    subst q
    intro y8 q
    replace h := q_ltw h q
    exact ⟨q_N, b_X12_choose_L47 hB kk q_N _ _ _ _ R h⟩
  · replace h := q_ifp h c
    obtain ⟨v1, h1, h⟩ := q_bvi h
    refine b_X12_wrong R h1 (fun T9 R q => ?_)
    subst q
    exact q_fin h kk R
def fX12_named_b171 (B : q_V → Option (Int64 × q_V)) (x1 : Int32) (Sn : q_V) : Option (Int64 × q_V) :=
  q_bv (fX12_expression_t Sn) (fun T1001 =>
  q_bv (fX12_takeSign 59 T1001) (fun T1002 =>
  if (x1) < 0 ∨ 3002 ≤ (x1).toNatClampNeg then none else
  q_bd (fX12_known ((q_b T1002 2406 x1.toNatClampNeg)) T1002) (fun y1005 T1004 =>
  q_bd (fX12_emit 3 y1005 0 T1004) (fun y1007 T1006 =>
  q_bd (fX12_risky 1 T1006) (fun z1009 T1008 =>
  some (z1009, T1008))))))
theorem b_X12_named_b171 {g : q_G} {S0 : kp_S} {Bf : q_V → Option (Int64 × q_V)} {B : Nat → kp_S → (Int64 → kp_S → Prop) → Prop} {x1 : Int32} {Sn : kp_S} {post : Int64 → kp_S → Prop} {y : Int64} {v : q_V} (R : q_Gd 2 g S0 Sn) (hB : ∀ (S : kp_S) (y : Int64) (v : q_V) (post : Int64 → kp_S → Prop), q_Gd 2 g S0 S → Bf (q_w g S) = some (y, v) → (∀ S, q_Gd 2 g S0 S → v = q_w g S → post y S) → B (g 0 12 0) S post) (h : fX12_named_b171 Bf x1 (q_w g Sn) = some (y, v)) (kk : ∀ S, q_Gd 2 g S0 S → v = q_w g S → post y S) : wX12_named_b171 B (g 0 12 0) x1 Sn post := by
  unfold wX12_named_b171; unfold fX12_named_b171 at h
  obtain ⟨v1, h1, h⟩ := q_bvi h
  refine b_X12_expression_t R h1 (fun T1001 R q => ?_)
  subst q
  obtain ⟨v1, h1, h⟩ := q_bvi h
  refine b_X12_takeSign R h1 (fun T1002 R q => ?_)
  subst q
  refine ⟨_, q_p2406 R, ?_⟩
  rw [q_l2406 R]
  obtain ⟨hi, h⟩ := q_in h
  refine ⟨hi, ?_⟩
  obtain ⟨y1005, v1, h1, h⟩ := q_bdi h
  refine b_X12_known R h1 (fun T1004 R q => ?_)
  subst q
  obtain ⟨y1007, v1, h1, h⟩ := q_bdi h
  refine b_X12_emit R h1 (fun T1006 R q => ?_)
  subst q
  obtain ⟨z1009, v1, h1, h⟩ := q_bdi h
  refine b_X12_risky R h1 (fun T1008 R q => ?_)
  subst q
  exact q_fin h kk R
def fX12_named_b120 (B : q_V → Option (Int64 × q_V)) (x1 : Int32) (Sn : q_V) : Option (Int64 × q_V) :=
  if (x1) < 0 ∨ 3002 ≤ (x1).toNatClampNeg then none else
  q_bd (fX12_loop B x1 ((q_b Sn 2406 x1.toNatClampNeg)) Sn) (fun z2003 T2002 =>
  some (z2003, T2002))
theorem b_X12_named_b120 {g : q_G} {S0 : kp_S} {Bf : q_V → Option (Int64 × q_V)} {B : Nat → kp_S → (Int64 → kp_S → Prop) → Prop} {x1 : Int32} {Sn : kp_S} {post : Int64 → kp_S → Prop} {y : Int64} {v : q_V} (R : q_Gd 2 g S0 Sn) (hB : ∀ (S : kp_S) (y : Int64) (v : q_V) (post : Int64 → kp_S → Prop), q_Gd 2 g S0 S → Bf (q_w g S) = some (y, v) → (∀ S, q_Gd 2 g S0 S → v = q_w g S → post y S) → B (g 0 12 0) S post) (h : fX12_named_b120 Bf x1 (q_w g Sn) = some (y, v)) (kk : ∀ S, q_Gd 2 g S0 S → v = q_w g S → post y S) : wX12_named_b120 B (g 0 12 0) x1 Sn post := by
  unfold wX12_named_b120; unfold fX12_named_b120 at h
  refine ⟨_, q_p2406 R, ?_⟩
  rw [q_l2406 R]
  obtain ⟨hi, h⟩ := q_in h
  refine ⟨hi, ?_⟩
  obtain ⟨z2003, v1, h1, h⟩ := q_bdi h
  refine b_X12_loop R hB h1 (fun T2002 R q => ?_)
  subst q
  exact q_fin h kk R
def fX12_named_b87 (B : q_V → Option (Int64 × q_V)) (x1 : Int32) (xn2 : Int32) (K57 : Int32 → q_V → Option (Int64 × q_V)) (Sn : q_V) : Option (Int64 × q_V) :=
  q_lt (xn2 + 1 : Int32) (fun y3001 =>
  K57 y3001 Sn)
theorem b_X12_named_b87 {g : q_G} {S0 : kp_S} {Bf : q_V → Option (Int64 × q_V)} {B : Nat → kp_S → (Int64 → kp_S → Prop) → Prop} {x1 : Int32} {xn2 : Int32} {K57f : Int32 → q_V → Option (Int64 × q_V)} {K57 : Int32 → kp_S → Prop} {Sn : kp_S} {post : Int64 → kp_S → Prop} {y : Int64} {v : q_V} (R : q_Gd 2 g S0 Sn) (hB : ∀ (S : kp_S) (y : Int64) (v : q_V) (post : Int64 → kp_S → Prop), q_Gd 2 g S0 S → Bf (q_w g S) = some (y, v) → (∀ S, q_Gd 2 g S0 S → v = q_w g S → post y S) → B (g 0 12 0) S post) (hK57 : ∀ (x0 : Int32) (S : kp_S), q_Gd 2 g S0 S → K57f x0 (q_w g S) = some (y, v) → K57 x0 S) (h : fX12_named_b87 Bf x1 xn2 K57f (q_w g Sn) = some (y, v)) (kk : ∀ S, q_Gd 2 g S0 S → v = q_w g S → post y S) : wX12_named_b87 B (g 0 12 0) x1 xn2 K57 Sn post := by
  unfold wX12_named_b87; unfold fX12_named_b87 at h
  intro y3001 q
  replace h := q_ltw h q
  exact hK57 _ _ R h
def fX12_named_L57 (B : q_V → Option (Int64 × q_V)) (x1 : Int32) : Nat → Int32 → q_V → Option (Int64 × q_V)
  | 0, _, _ => none
  | n + 1, xn2, Sn =>
  if (q_i Sn 2445) ≤ xn2 then
  q_bd (fX12_is 15 Sn) (fun y4002 T4001 =>
  if y4002 = 0 then
  q_bd (fX12_is 16 T4001) (fun y4004 T4003 =>
  if y4004 = 0 then
  q_bd (fX12_is 45 T4003) (fun y4006 T4005 =>
  if y4006 = 0 then
  q_bv (fX12_wrong T4005) (fun T4007 =>
  some (0, T4007))
  else
  fX12_named_b120 B x1 T4005)
  else
  fX12_named_b120 B x1 T4003)
  else
  fX12_named_b120 B x1 T4001)
  else
  if (xn2) < 0 ∨ 20 ≤ (xn2).toNatClampNeg then none else
  if (x1) < 0 ∨ 3002 ≤ (x1).toNatClampNeg then none else
  if (lg_cmp (q_b Sn 2443 xn2.toNatClampNeg) (q_b Sn 2406 x1.toNatClampNeg)) = 0 then
  q_bv (fX12_bad 4 x1 Sn) (fun T4013 =>
  fX12_named_b87 B x1 xn2 (fun xn2_ S_ => fX12_named_L57 B x1 n xn2_ S_) T4013)
  else
  fX12_named_b87 B x1 xn2 (fun xn2_ S_ => fX12_named_L57 B x1 n xn2_ S_) Sn
theorem b_X12_named_L57 {g : q_G} {S0 : kp_S} {Bf : q_V → Option (Int64 × q_V)} {B : Nat → kp_S → (Int64 → kp_S → Prop) → Prop} {x1 : Int32} {post : Int64 → kp_S → Prop} {y : Int64} {v : q_V} (hB : ∀ (S : kp_S) (y : Int64) (v : q_V) (post : Int64 → kp_S → Prop), q_Gd 2 g S0 S → Bf (q_w g S) = some (y, v) → (∀ S, q_Gd 2 g S0 S → v = q_w g S → post y S) → B (g 0 12 0) S post) (kk : ∀ S, q_Gd 2 g S0 S → v = q_w g S → post y S) : ∀ (n : Nat) (xn2 : Int32) (Sn : kp_S), q_Gd 2 g S0 Sn → fX12_named_L57 Bf x1 n xn2 (q_w g Sn) = some (y, v) → wX12_named_L57 B (g 0 12 0) x1 post n xn2 Sn := by
  intro n
  induction n with
  | zero => intro xn2 Sn _ h; cases h
  | succ n ih =>
    intro xn2 Sn R h
    unfold wX12_named_L57; unfold fX12_named_L57 at h
    refine ⟨fun c => ?_, fun c => ?_⟩
    · replace h := q_ifp h c
      obtain ⟨y4002, v1, h1, h⟩ := q_bdi h
      refine b_X12_is R h1 (fun T4001 R q => ?_)
      subst q
      refine ⟨fun c => ?_, fun c => ?_⟩
      · replace h := q_ifn h c
        exact b_X12_named_b120 R hB h kk
      · replace h := q_ifp h c
        obtain ⟨y4004, v1, h1, h⟩ := q_bdi h
        refine b_X12_is R h1 (fun T4003 R q => ?_)
        subst q
        refine ⟨fun c => ?_, fun c => ?_⟩
        · replace h := q_ifn h c
          exact b_X12_named_b120 R hB h kk
        · replace h := q_ifp h c
          obtain ⟨y4006, v1, h1, h⟩ := q_bdi h
          refine b_X12_is R h1 (fun T4005 R q => ?_)
          subst q
          refine ⟨fun c => ?_, fun c => ?_⟩
          · replace h := q_ifp h c
            obtain ⟨v1, h1, h⟩ := q_bvi h
            refine b_X12_wrong R h1 (fun T4007 R q => ?_)
            subst q
            exact q_fin h kk R
          · replace h := q_ifn h c
            exact b_X12_named_b120 R hB h kk
    · replace h := q_ifn h c
      refine ⟨_, q_p2443 R, ?_⟩
      rw [q_l2443 R]
      obtain ⟨hi, h⟩ := q_in h
      refine ⟨hi, ?_⟩
      refine ⟨_, q_p2406 R, ?_⟩
      rw [q_l2406 R]
      obtain ⟨hi, h⟩ := q_in h
      refine ⟨hi, ?_⟩
      refine ⟨fun c => ?_, fun c => ?_⟩
      · replace h := q_ifn h c
        exact b_X12_named_b87 R hB (fun xn2_ S_ R h => ih xn2_ S_ R h) h kk
      · replace h := q_ifp h c
        obtain ⟨v1, h1, h⟩ := q_bvi h
        refine b_X12_bad R h1 (fun T4013 R q => ?_)
        subst q
        exact b_X12_named_b87 R hB (fun xn2_ S_ R h => ih xn2_ S_ R h) h kk
def fX12_named (B : q_V → Option (Int64 × q_V)) (x1 : Int32) (S : q_V) : Option (Int64 × q_V) :=
  q_lt (q_si S 2410 (((q_i S 2410) + 1))) (fun T1 =>
  q_bd (fX12_isSign 40 T1) (fun y3 T2 =>
  if y3 = 0 then
  q_bd (fX12_skip 158 T2) (fun y5 T4 =>
  if y5 = 0 then
  q_bv (fX12_takeSign 61 T4) (fun T6 =>
  q_bd (fX12_fine T6) (fun y8 T7 =>
  if y8 = 0 then
  fX12_named_b171 B x1 T7
  else
  if (x1) < 0 ∨ 3002 ≤ (x1).toNatClampNeg then none else
  q_bd (fX12_known ((q_b T7 2406 x1.toNatClampNeg)) T7) (fun y11 T10 =>
  if y11 = (- 1) then
  q_bv (fX12_bad 5 x1 T10) (fun T12 =>
  fX12_named_b171 B x1 T12)
  else
  fX12_named_b171 B x1 T10)))
  else
  q_lt ((q_i T4 2446) : Int32) (fun y15 =>
  fX12_named_L57 B x1 q_N y15 T4))
  else
  q_bv (fX12_call_t x1 T2) (fun T17 =>
  q_bv (fX12_takeSign 59 T17) (fun T18 =>
  q_bd (fX12_emit 4 0 0 T18) (fun y20 T19 =>
  some (5, T19))))))
theorem b_X12_named {g : q_G} {S0 : kp_S} {Bf : q_V → Option (Int64 × q_V)} {B : Nat → kp_S → (Int64 → kp_S → Prop) → Prop} {x1 : Int32} {S : kp_S} {post : Int64 → kp_S → Prop} {y : Int64} {v : q_V} (R : q_Gd 2 g S0 S) (hB : ∀ (S : kp_S) (y : Int64) (v : q_V) (post : Int64 → kp_S → Prop), q_Gd 2 g S0 S → Bf (q_w g S) = some (y, v) → (∀ S, q_Gd 2 g S0 S → v = q_w g S → post y S) → B (g 0 12 0) S post) (h : fX12_named Bf x1 (q_w g S) = some (y, v)) (kk : ∀ S, q_Gd 2 g S0 S → v = q_w g S → post y S) : wX12_named B (g 0 12 0) x1 S post := by
  unfold wX12_named; unfold fX12_named at h
  intro T1 q
  obtain ⟨R, q⟩ := q_wI R q rfl rfl
  replace h := q_ltw h q
  obtain ⟨y3, v1, h1, h⟩ := q_bdi h
  refine b_X12_isSign R h1 (fun T2 R q => ?_)
  subst q
  refine ⟨fun c => ?_, fun c => ?_⟩
  · replace h := q_ifp h c
    obtain ⟨y5, v1, h1, h⟩ := q_bdi h
    refine b_X12_skip R h1 (fun T4 R q => ?_)
    subst q
    refine ⟨fun c => ?_, fun c => ?_⟩
    · replace h := q_ifp h c
      obtain ⟨v1, h1, h⟩ := q_bvi h
      refine b_X12_takeSign R h1 (fun T6 R q => ?_)
      subst q
      obtain ⟨y8, v1, h1, h⟩ := q_bdi h
      refine b_X12_fine R h1 (fun T7 R q => ?_)
      subst q
      refine ⟨fun c => ?_, fun c => ?_⟩
      · replace h := q_ifp h c
        exact b_X12_named_b171 R hB h kk
      · replace h := q_ifn h c
        refine ⟨_, q_p2406 R, ?_⟩
        rw [q_l2406 R]
        obtain ⟨hi, h⟩ := q_in h
        refine ⟨hi, ?_⟩
        obtain ⟨y11, v1, h1, h⟩ := q_bdi h
        refine b_X12_known R h1 (fun T10 R q => ?_)
        subst q
        refine ⟨fun c => ?_, fun c => ?_⟩
        · replace h := q_ifn h c
          exact b_X12_named_b171 R hB h kk
        · replace h := q_ifp h c
          obtain ⟨v1, h1, h⟩ := q_bvi h
          refine b_X12_bad R h1 (fun T12 R q => ?_)
          subst q
          exact b_X12_named_b171 R hB h kk
    · replace h := q_ifn h c
      intro y15 q
      replace h := q_ltw h q
      exact ⟨q_N, b_X12_named_L57 hB kk q_N _ _ R h⟩
  · replace h := q_ifn h c
    obtain ⟨v1, h1, h⟩ := q_bvi h
    refine b_X12_call_t R h1 (fun T17 R q => ?_)
    subst q
    obtain ⟨v1, h1, h⟩ := q_bvi h
    refine b_X12_takeSign R h1 (fun T18 R q => ?_)
    subst q
    obtain ⟨y20, v1, h1, h⟩ := q_bdi h
    refine b_X12_emit R h1 (fun T19 R q => ?_)
    subst q
    exact q_fin h kk R
def fX12_trial_b256 (B : q_V → Option (Int64 × q_V)) (x1 : Int32) (xn2 : Int32) (wn3 : Int64) (Sn : q_V) : Option (Int64 × q_V) :=
  q_bd (fX12_always B xn2 wn3 Sn) (fun z1002 T1001 =>
  if (xn2) < 0 ∨ 640 ≤ (xn2).toNatClampNeg then none else
  q_lt (q_sa T1001 2420 ((upd (q_a T1001 2420) (xn2.toNatClampNeg) (q_i T1001 2417)))) (fun T1004 =>
  some (z1002, T1004)))
theorem b_X12_trial_b256 {g : q_G} {S0 : kp_S} {Bf : q_V → Option (Int64 × q_V)} {B : Nat → kp_S → (Int64 → kp_S → Prop) → Prop} {x1 : Int32} {xn2 : Int32} {wn3 : Int64} {Sn : kp_S} {post : Int64 → kp_S → Prop} {y : Int64} {v : q_V} (R : q_Gd 2 g S0 Sn) (hB : ∀ (S : kp_S) (y : Int64) (v : q_V) (post : Int64 → kp_S → Prop), q_Gd 2 g S0 S → Bf (q_w g S) = some (y, v) → (∀ S, q_Gd 2 g S0 S → v = q_w g S → post y S) → B (g 0 12 0) S post) (h : fX12_trial_b256 Bf x1 xn2 wn3 (q_w g Sn) = some (y, v)) (kk : ∀ S, q_Gd 2 g S0 S → v = q_w g S → post y S) : wX12_trial_b256 B (g 0 12 0) x1 xn2 wn3 Sn post := by
  unfold wX12_trial_b256; unfold fX12_trial_b256 at h
  obtain ⟨z1002, v1, h1, h⟩ := q_bdi h
  refine b_X12_always R hB h1 (fun T1001 R q => ?_)
  subst q
  refine ⟨_, q_p2420 R, ?_⟩
  rw [q_l2420 R]
  obtain ⟨hi, h⟩ := q_in h
  refine ⟨hi, ?_⟩
  intro T1004 q
  obtain ⟨R, q⟩ := q_wA R q rfl
  replace h := q_ltw h q
  exact q_fin h kk R
def fX12_trial_b254 (B : q_V → Option (Int64 × q_V)) (x1 : Int32) (xn2 : Int32) (wt0 : Int64) (wt1 : Int64) (Sn : q_V) : Option (Int64 × q_V) :=
  q_lt ((wt1 ||| wt0) : Int64) (fun z2001 =>
  fX12_trial_b256 B x1 xn2 z2001 Sn)
theorem b_X12_trial_b254 {g : q_G} {S0 : kp_S} {Bf : q_V → Option (Int64 × q_V)} {B : Nat → kp_S → (Int64 → kp_S → Prop) → Prop} {x1 : Int32} {xn2 : Int32} {wt0 : Int64} {wt1 : Int64} {Sn : kp_S} {post : Int64 → kp_S → Prop} {y : Int64} {v : q_V} (R : q_Gd 2 g S0 Sn) (hB : ∀ (S : kp_S) (y : Int64) (v : q_V) (post : Int64 → kp_S → Prop), q_Gd 2 g S0 S → Bf (q_w g S) = some (y, v) → (∀ S, q_Gd 2 g S0 S → v = q_w g S → post y S) → B (g 0 12 0) S post) (h : fX12_trial_b254 Bf x1 xn2 wt0 wt1 (q_w g Sn) = some (y, v)) (kk : ∀ S, q_Gd 2 g S0 S → v = q_w g S → post y S) : wX12_trial_b254 B (g 0 12 0) x1 xn2 wt0 wt1 Sn post := by
  unfold wX12_trial_b254; unfold fX12_trial_b254 at h
  intro z2001 q
  replace h := q_ltw h q
  exact b_X12_trial_b256 R hB h kk
def fX12_trial_b247 (B : q_V → Option (Int64 × q_V)) (x1 : Int32) (xn2 : Int32) (wt0 : Int64) (Sn : q_V) : Option (Int64 × q_V) :=
  fX12_trial_b254 B x1 xn2 4 wt0 Sn
theorem b_X12_trial_b247 {g : q_G} {S0 : kp_S} {Bf : q_V → Option (Int64 × q_V)} {B : Nat → kp_S → (Int64 → kp_S → Prop) → Prop} {x1 : Int32} {xn2 : Int32} {wt0 : Int64} {Sn : kp_S} {post : Int64 → kp_S → Prop} {y : Int64} {v : q_V} (R : q_Gd 2 g S0 Sn) (hB : ∀ (S : kp_S) (y : Int64) (v : q_V) (post : Int64 → kp_S → Prop), q_Gd 2 g S0 S → Bf (q_w g S) = some (y, v) → (∀ S, q_Gd 2 g S0 S → v = q_w g S → post y S) → B (g 0 12 0) S post) (h : fX12_trial_b247 Bf x1 xn2 wt0 (q_w g Sn) = some (y, v)) (kk : ∀ S, q_Gd 2 g S0 S → v = q_w g S → post y S) : wX12_trial_b247 B (g 0 12 0) x1 xn2 wt0 Sn post := by
  unfold wX12_trial_b247; unfold fX12_trial_b247 at h
  exact b_X12_trial_b254 R hB h kk
def fX12_trial_b205 (B : q_V → Option (Int64 × q_V)) (x1 : Int32) (xn2 : Int32) (wn3 : Int64) (xn6 : Int32) (wn7 : Int64) (xt0 : Int32) (K91 : Int32 → Int64 → Int32 → Int32 → Int64 → q_V → Option (Int64 × q_V)) (Sn : q_V) : Option (Int64 × q_V) :=
  K91 xn2 wn3 xt0 xn6 wn7 Sn
theorem b_X12_trial_b205 {g : q_G} {S0 : kp_S} {Bf : q_V → Option (Int64 × q_V)} {B : Nat → kp_S → (Int64 → kp_S → Prop) → Prop} {x1 : Int32} {xn2 : Int32} {wn3 : Int64} {xn6 : Int32} {wn7 : Int64} {xt0 : Int32} {K91f : Int32 → Int64 → Int32 → Int32 → Int64 → q_V → Option (Int64 × q_V)} {K91 : Int32 → Int64 → Int32 → Int32 → Int64 → kp_S → Prop} {Sn : kp_S} {post : Int64 → kp_S → Prop} {y : Int64} {v : q_V} (R : q_Gd 2 g S0 Sn) (hB : ∀ (S : kp_S) (y : Int64) (v : q_V) (post : Int64 → kp_S → Prop), q_Gd 2 g S0 S → Bf (q_w g S) = some (y, v) → (∀ S, q_Gd 2 g S0 S → v = q_w g S → post y S) → B (g 0 12 0) S post) (hK91 : ∀ (x0 : Int32) (x1 : Int64) (x2 : Int32) (x3 : Int32) (x4 : Int64) (S : kp_S), q_Gd 2 g S0 S → K91f x0 x1 x2 x3 x4 (q_w g S) = some (y, v) → K91 x0 x1 x2 x3 x4 S) (h : fX12_trial_b205 Bf x1 xn2 wn3 xn6 wn7 xt0 K91f (q_w g Sn) = some (y, v)) (kk : ∀ S, q_Gd 2 g S0 S → v = q_w g S → post y S) : wX12_trial_b205 B (g 0 12 0) x1 xn2 wn3 xn6 wn7 xt0 K91 Sn post := by
  unfold wX12_trial_b205; unfold fX12_trial_b205 at h
  exact hK91 _ _ _ _ _ _ R h
def fX12_trial_b200 (B : q_V → Option (Int64 × q_V)) (x1 : Int32) (xn2 : Int32) (wn3 : Int64) (xn6 : Int32) (wn7 : Int64) (K91 : Int32 → Int64 → Int32 → Int32 → Int64 → q_V → Option (Int64 × q_V)) (Sn : q_V) : Option (Int64 × q_V) :=
  fX12_trial_b205 B x1 xn2 wn3 xn6 wn7 1 K91 Sn
theorem b_X12_trial_b200 {g : q_G} {S0 : kp_S} {Bf : q_V → Option (Int64 × q_V)} {B : Nat → kp_S → (Int64 → kp_S → Prop) → Prop} {x1 : Int32} {xn2 : Int32} {wn3 : Int64} {xn6 : Int32} {wn7 : Int64} {K91f : Int32 → Int64 → Int32 → Int32 → Int64 → q_V → Option (Int64 × q_V)} {K91 : Int32 → Int64 → Int32 → Int32 → Int64 → kp_S → Prop} {Sn : kp_S} {post : Int64 → kp_S → Prop} {y : Int64} {v : q_V} (R : q_Gd 2 g S0 Sn) (hB : ∀ (S : kp_S) (y : Int64) (v : q_V) (post : Int64 → kp_S → Prop), q_Gd 2 g S0 S → Bf (q_w g S) = some (y, v) → (∀ S, q_Gd 2 g S0 S → v = q_w g S → post y S) → B (g 0 12 0) S post) (hK91 : ∀ (x0 : Int32) (x1 : Int64) (x2 : Int32) (x3 : Int32) (x4 : Int64) (S : kp_S), q_Gd 2 g S0 S → K91f x0 x1 x2 x3 x4 (q_w g S) = some (y, v) → K91 x0 x1 x2 x3 x4 S) (h : fX12_trial_b200 Bf x1 xn2 wn3 xn6 wn7 K91f (q_w g Sn) = some (y, v)) (kk : ∀ S, q_Gd 2 g S0 S → v = q_w g S → post y S) : wX12_trial_b200 B (g 0 12 0) x1 xn2 wn3 xn6 wn7 K91 Sn post := by
  unfold wX12_trial_b200; unfold fX12_trial_b200 at h
  exact b_X12_trial_b205 R hB hK91 h kk
def fX12_trial_b188 (B : q_V → Option (Int64 × q_V)) (x1 : Int32) (xn2 : Int32) (wn3 : Int64) (xn5 : Int32) (xn6 : Int32) (xn9 : Int32) (wt0 : Int64) (K91 : Int32 → Int64 → Int32 → Int32 → Int64 → q_V → Option (Int64 × q_V)) (Sn : q_V) : Option (Int64 × q_V) :=
  if xn5 = 0 then
  if xn9 = 0 then
  fX12_trial_b205 B x1 xn2 wn3 xn6 wt0 0 K91 Sn
  else
  fX12_trial_b200 B x1 xn2 wn3 xn6 wt0 K91 Sn
  else
  fX12_trial_b200 B x1 xn2 wn3 xn6 wt0 K91 Sn
theorem b_X12_trial_b188 {g : q_G} {S0 : kp_S} {Bf : q_V → Option (Int64 × q_V)} {B : Nat → kp_S → (Int64 → kp_S → Prop) → Prop} {x1 : Int32} {xn2 : Int32} {wn3 : Int64} {xn5 : Int32} {xn6 : Int32} {xn9 : Int32} {wt0 : Int64} {K91f : Int32 → Int64 → Int32 → Int32 → Int64 → q_V → Option (Int64 × q_V)} {K91 : Int32 → Int64 → Int32 → Int32 → Int64 → kp_S → Prop} {Sn : kp_S} {post : Int64 → kp_S → Prop} {y : Int64} {v : q_V} (R : q_Gd 2 g S0 Sn) (hB : ∀ (S : kp_S) (y : Int64) (v : q_V) (post : Int64 → kp_S → Prop), q_Gd 2 g S0 S → Bf (q_w g S) = some (y, v) → (∀ S, q_Gd 2 g S0 S → v = q_w g S → post y S) → B (g 0 12 0) S post) (hK91 : ∀ (x0 : Int32) (x1 : Int64) (x2 : Int32) (x3 : Int32) (x4 : Int64) (S : kp_S), q_Gd 2 g S0 S → K91f x0 x1 x2 x3 x4 (q_w g S) = some (y, v) → K91 x0 x1 x2 x3 x4 S) (h : fX12_trial_b188 Bf x1 xn2 wn3 xn5 xn6 xn9 wt0 K91f (q_w g Sn) = some (y, v)) (kk : ∀ S, q_Gd 2 g S0 S → v = q_w g S → post y S) : wX12_trial_b188 B (g 0 12 0) x1 xn2 wn3 xn5 xn6 xn9 wt0 K91 Sn post := by
  unfold wX12_trial_b188; unfold fX12_trial_b188 at h
  refine ⟨fun c => ?_, fun c => ?_⟩
  · replace h := q_ifn h c
    exact b_X12_trial_b200 R hB hK91 h kk
  · replace h := q_ifp h c
    refine ⟨fun c => ?_, fun c => ?_⟩
    · replace h := q_ifp h c
      exact b_X12_trial_b205 R hB hK91 h kk
    · replace h := q_ifn h c
      exact b_X12_trial_b200 R hB hK91 h kk
def fX12_trial_b145 (B : q_V → Option (Int64 × q_V)) (x1 : Int32) (xn2 : Int32) (wn3 : Int64) (xn5 : Int32) (wn7 : Int64) (xn9 : Int32) (xn10 : Int32) (xt0 : Int32) (K91 : Int32 → Int64 → Int32 → Int32 → Int64 → q_V → Option (Int64 × q_V)) (Sn : q_V) : Option (Int64 × q_V) :=
  q_bd (B Sn) (fun z7002 T7001 =>
  q_bd (fX12_emit 48 0 0 T7001) (fun y7004 T7003 =>
  if (xn10) < 0 ∨ 4000 ≤ (xn10).toNatClampNeg then none else
  q_lt (q_sa T7003 2415 ((upd (q_a T7003 2415) (xn10.toNatClampNeg) (q_i T7003 2417)))) (fun T7006 =>
  if xn5 = 0 then
  fX12_trial_b188 B x1 xn2 wn3 xn5 xt0 xn9 ((wn7 ||| z7002)) K91 T7006
  else
  fX12_trial_b188 B x1 xn2 wn3 xn5 xt0 xn9 wn7 K91 T7006)))
theorem b_X12_trial_b145 {g : q_G} {S0 : kp_S} {Bf : q_V → Option (Int64 × q_V)} {B : Nat → kp_S → (Int64 → kp_S → Prop) → Prop} {x1 : Int32} {xn2 : Int32} {wn3 : Int64} {xn5 : Int32} {wn7 : Int64} {xn9 : Int32} {xn10 : Int32} {xt0 : Int32} {K91f : Int32 → Int64 → Int32 → Int32 → Int64 → q_V → Option (Int64 × q_V)} {K91 : Int32 → Int64 → Int32 → Int32 → Int64 → kp_S → Prop} {Sn : kp_S} {post : Int64 → kp_S → Prop} {y : Int64} {v : q_V} (R : q_Gd 2 g S0 Sn) (hB : ∀ (S : kp_S) (y : Int64) (v : q_V) (post : Int64 → kp_S → Prop), q_Gd 2 g S0 S → Bf (q_w g S) = some (y, v) → (∀ S, q_Gd 2 g S0 S → v = q_w g S → post y S) → B (g 0 12 0) S post) (hK91 : ∀ (x0 : Int32) (x1 : Int64) (x2 : Int32) (x3 : Int32) (x4 : Int64) (S : kp_S), q_Gd 2 g S0 S → K91f x0 x1 x2 x3 x4 (q_w g S) = some (y, v) → K91 x0 x1 x2 x3 x4 S) (h : fX12_trial_b145 Bf x1 xn2 wn3 xn5 wn7 xn9 xn10 xt0 K91f (q_w g Sn) = some (y, v)) (kk : ∀ S, q_Gd 2 g S0 S → v = q_w g S → post y S) : wX12_trial_b145 B (g 0 12 0) x1 xn2 wn3 xn5 wn7 xn9 xn10 xt0 K91 Sn post := by
  unfold wX12_trial_b145; unfold fX12_trial_b145 at h
  obtain ⟨z7002, v1, h1, h⟩ := q_bdi h
  refine hB _ _ _ _ R h1 (fun T7001 R q => ?_)
  subst q
  obtain ⟨y7004, v1, h1, h⟩ := q_bdi h
  refine b_X12_emit R h1 (fun T7003 R q => ?_)
  subst q
  refine ⟨_, q_p2415 R, ?_⟩
  rw [q_l2415 R]
  obtain ⟨hi, h⟩ := q_in h
  refine ⟨hi, ?_⟩
  intro T7006 q
  obtain ⟨R, q⟩ := q_wA R q rfl
  replace h := q_ltw h q
  refine ⟨fun c => ?_, fun c => ?_⟩
  · replace h := q_ifp h c
    exact b_X12_trial_b188 R hB hK91 h kk
  · replace h := q_ifn h c
    exact b_X12_trial_b188 R hB hK91 h kk
def fX12_trial_b144 (B : q_V → Option (Int64 × q_V)) (x1 : Int32) (xn2 : Int32) (wn3 : Int64) (xn5 : Int32) (wn7 : Int64) (xn9 : Int32) (xn10 : Int32) (K91 : Int32 → Int64 → Int32 → Int32 → Int64 → q_V → Option (Int64 × q_V)) (Sn : q_V) : Option (Int64 × q_V) :=
  fX12_trial_b145 B x1 xn2 wn3 xn5 wn7 xn9 xn10 0 K91 Sn
theorem b_X12_trial_b144 {g : q_G} {S0 : kp_S} {Bf : q_V → Option (Int64 × q_V)} {B : Nat → kp_S → (Int64 → kp_S → Prop) → Prop} {x1 : Int32} {xn2 : Int32} {wn3 : Int64} {xn5 : Int32} {wn7 : Int64} {xn9 : Int32} {xn10 : Int32} {K91f : Int32 → Int64 → Int32 → Int32 → Int64 → q_V → Option (Int64 × q_V)} {K91 : Int32 → Int64 → Int32 → Int32 → Int64 → kp_S → Prop} {Sn : kp_S} {post : Int64 → kp_S → Prop} {y : Int64} {v : q_V} (R : q_Gd 2 g S0 Sn) (hB : ∀ (S : kp_S) (y : Int64) (v : q_V) (post : Int64 → kp_S → Prop), q_Gd 2 g S0 S → Bf (q_w g S) = some (y, v) → (∀ S, q_Gd 2 g S0 S → v = q_w g S → post y S) → B (g 0 12 0) S post) (hK91 : ∀ (x0 : Int32) (x1 : Int64) (x2 : Int32) (x3 : Int32) (x4 : Int64) (S : kp_S), q_Gd 2 g S0 S → K91f x0 x1 x2 x3 x4 (q_w g S) = some (y, v) → K91 x0 x1 x2 x3 x4 S) (h : fX12_trial_b144 Bf x1 xn2 wn3 xn5 wn7 xn9 xn10 K91f (q_w g Sn) = some (y, v)) (kk : ∀ S, q_Gd 2 g S0 S → v = q_w g S → post y S) : wX12_trial_b144 B (g 0 12 0) x1 xn2 wn3 xn5 wn7 xn9 xn10 K91 Sn post := by
  unfold wX12_trial_b144; unfold fX12_trial_b144 at h
  exact b_X12_trial_b145 R hB hK91 h kk
def fX12_trial_b140 (B : q_V → Option (Int64 × q_V)) (x1 : Int32) (xn2 : Int32) (wn3 : Int64) (xn5 : Int32) (wn7 : Int64) (xn9 : Int32) (xn10 : Int32) (K91 : Int32 → Int64 → Int32 → Int32 → Int64 → q_V → Option (Int64 × q_V)) (Sn : q_V) : Option (Int64 × q_V) :=
  fX12_trial_b145 B x1 xn2 wn3 xn5 wn7 xn9 xn10 1 K91 Sn
theorem b_X12_trial_b140 {g : q_G} {S0 : kp_S} {Bf : q_V → Option (Int64 × q_V)} {B : Nat → kp_S → (Int64 → kp_S → Prop) → Prop} {x1 : Int32} {xn2 : Int32} {wn3 : Int64} {xn5 : Int32} {wn7 : Int64} {xn9 : Int32} {xn10 : Int32} {K91f : Int32 → Int64 → Int32 → Int32 → Int64 → q_V → Option (Int64 × q_V)} {K91 : Int32 → Int64 → Int32 → Int32 → Int64 → kp_S → Prop} {Sn : kp_S} {post : Int64 → kp_S → Prop} {y : Int64} {v : q_V} (R : q_Gd 2 g S0 Sn) (hB : ∀ (S : kp_S) (y : Int64) (v : q_V) (post : Int64 → kp_S → Prop), q_Gd 2 g S0 S → Bf (q_w g S) = some (y, v) → (∀ S, q_Gd 2 g S0 S → v = q_w g S → post y S) → B (g 0 12 0) S post) (hK91 : ∀ (x0 : Int32) (x1 : Int64) (x2 : Int32) (x3 : Int32) (x4 : Int64) (S : kp_S), q_Gd 2 g S0 S → K91f x0 x1 x2 x3 x4 (q_w g S) = some (y, v) → K91 x0 x1 x2 x3 x4 S) (h : fX12_trial_b140 Bf x1 xn2 wn3 xn5 wn7 xn9 xn10 K91f (q_w g Sn) = some (y, v)) (kk : ∀ S, q_Gd 2 g S0 S → v = q_w g S → post y S) : wX12_trial_b140 B (g 0 12 0) x1 xn2 wn3 xn5 wn7 xn9 xn10 K91 Sn post := by
  unfold wX12_trial_b140; unfold fX12_trial_b140 at h
  exact b_X12_trial_b145 R hB hK91 h kk
def fX12_trial_L91 (B : q_V → Option (Int64 × q_V)) (x1 : Int32) : Nat → Int32 → Int64 → Int32 → Int32 → Int64 → q_V → Option (Int64 × q_V)
  | 0, _, _, _, _, _, _ => none
  | n + 1, xn2, wn3, xn5, xn6, wn7, Sn =>
  q_bd (fX12_skip 25 Sn) (fun y10002 T10001 =>
  if y10002 = 0 then
  q_bd (fX12_emit 53 0 0 T10001) (fun y10004 T10003 =>
  if (lg_cmp (wn3 &&& 4) 0) = 0 then
  fX12_trial_b256 B x1 xn2 wn3 T10003
  else
  if xn5 = 0 then
  fX12_trial_b247 B x1 xn2 (((wn3 &&& (- 5)) ||| wn7)) T10003
  else
  if xn6 = 0 then
  fX12_trial_b254 B x1 xn2 0 (((wn3 &&& (- 5)) ||| wn7)) T10003
  else
  fX12_trial_b247 B x1 xn2 (((wn3 &&& (- 5)) ||| wn7)) T10003)
  else
  q_bd (fX12_is 26 T10001) (fun y10009 T10008 =>
  q_lt (q_si T10008 2425 0) (fun T10010 =>
  q_bd (fX12_list 52 51 T10010) (fun y10012 T10011 =>
  if xn6 = 0 then
  if xn5 = 0 then
  if (q_i T10011 2425) = 0 then
  fX12_trial_b144 B x1 xn2 wn3 xn5 wn7 y10009 y10012 (fun xn2_ wn3_ xn5_ xn6_ wn7_ S_ => fX12_trial_L91 B x1 n xn2_ wn3_ xn5_ xn6_ wn7_ S_) T10011
  else
  fX12_trial_b140 B x1 xn2 wn3 xn5 wn7 y10009 y10012 (fun xn2_ wn3_ xn5_ xn6_ wn7_ S_ => fX12_trial_L91 B x1 n xn2_ wn3_ xn5_ xn6_ wn7_ S_) T10011
  else
  fX12_trial_b144 B x1 xn2 wn3 xn5 wn7 y10009 y10012 (fun xn2_ wn3_ xn5_ xn6_ wn7_ S_ => fX12_trial_L91 B x1 n xn2_ wn3_ xn5_ xn6_ wn7_ S_) T10011
  else
  fX12_trial_b140 B x1 xn2 wn3 xn5 wn7 y10009 y10012 (fun xn2_ wn3_ xn5_ xn6_ wn7_ S_ => fX12_trial_L91 B x1 n xn2_ wn3_ xn5_ xn6_ wn7_ S_) T10011))))
theorem b_X12_trial_L91 {g : q_G} {S0 : kp_S} {Bf : q_V → Option (Int64 × q_V)} {B : Nat → kp_S → (Int64 → kp_S → Prop) → Prop} {x1 : Int32} {post : Int64 → kp_S → Prop} {y : Int64} {v : q_V} (hB : ∀ (S : kp_S) (y : Int64) (v : q_V) (post : Int64 → kp_S → Prop), q_Gd 2 g S0 S → Bf (q_w g S) = some (y, v) → (∀ S, q_Gd 2 g S0 S → v = q_w g S → post y S) → B (g 0 12 0) S post) (kk : ∀ S, q_Gd 2 g S0 S → v = q_w g S → post y S) : ∀ (n : Nat) (xn2 : Int32) (wn3 : Int64) (xn5 : Int32) (xn6 : Int32) (wn7 : Int64) (Sn : kp_S), q_Gd 2 g S0 Sn → fX12_trial_L91 Bf x1 n xn2 wn3 xn5 xn6 wn7 (q_w g Sn) = some (y, v) → wX12_trial_L91 B (g 0 12 0) x1 post n xn2 wn3 xn5 xn6 wn7 Sn := by
  intro n
  induction n with
  | zero => intro xn2 wn3 xn5 xn6 wn7 Sn _ h; cases h
  | succ n ih =>
    intro xn2 wn3 xn5 xn6 wn7 Sn R h
    unfold wX12_trial_L91; unfold fX12_trial_L91 at h
    obtain ⟨y10002, v1, h1, h⟩ := q_bdi h
    refine b_X12_skip R h1 (fun T10001 R q => ?_)
    subst q
    refine ⟨fun c => ?_, fun c => ?_⟩
    · replace h := q_ifp h c
      obtain ⟨y10004, v1, h1, h⟩ := q_bdi h
      refine b_X12_emit R h1 (fun T10003 R q => ?_)
      subst q
      refine ⟨fun c => ?_, fun c => ?_⟩
      · replace h := q_ifp h c
        exact b_X12_trial_b256 R hB h kk
      · replace h := q_ifn h c
        refine ⟨fun c => ?_, fun c => ?_⟩
        · replace h := q_ifp h c
          exact b_X12_trial_b247 R hB h kk
        · replace h := q_ifn h c
          refine ⟨fun c => ?_, fun c => ?_⟩
          · replace h := q_ifp h c
            exact b_X12_trial_b254 R hB h kk
          · replace h := q_ifn h c
            exact b_X12_trial_b247 R hB h kk
    · replace h := q_ifn h c
      obtain ⟨y10009, v1, h1, h⟩ := q_bdi h
      refine b_X12_is R h1 (fun T10008 R q => ?_)
      subst q
      intro T10010 q
      obtain ⟨R, q⟩ := q_wI R q rfl rfl
      replace h := q_ltw h q
      obtain ⟨y10012, v1, h1, h⟩ := q_bdi h
      refine b_X12_list R h1 (fun T10011 R q => ?_)
      subst q
      refine ⟨fun c => ?_, fun c => ?_⟩
      · replace h := q_ifn h c
        exact b_X12_trial_b140 R hB (fun xn2_ wn3_ xn5_ xn6_ wn7_ S_ R h => ih xn2_ wn3_ xn5_ xn6_ wn7_ S_ R h) h kk
      · replace h := q_ifp h c
        refine ⟨fun c => ?_, fun c => ?_⟩
        · replace h := q_ifn h c
          exact b_X12_trial_b144 R hB (fun xn2_ wn3_ xn5_ xn6_ wn7_ S_ R h => ih xn2_ wn3_ xn5_ xn6_ wn7_ S_ R h) h kk
        · replace h := q_ifp h c
          refine ⟨fun c => ?_, fun c => ?_⟩
          · replace h := q_ifp h c
            exact b_X12_trial_b144 R hB (fun xn2_ wn3_ xn5_ xn6_ wn7_ S_ R h => ih xn2_ wn3_ xn5_ xn6_ wn7_ S_ R h) h kk
          · replace h := q_ifn h c
            exact b_X12_trial_b140 R hB (fun xn2_ wn3_ xn5_ xn6_ wn7_ S_ R h => ih xn2_ wn3_ xn5_ xn6_ wn7_ S_ R h) h kk
def fX12_trial_b82 (B : q_V → Option (Int64 × q_V)) (x1 : Int32) (xn2 : Int32) (wn3 : Int64) (Sn : q_V) : Option (Int64 × q_V) :=
  fX12_trial_L91 B x1 q_N xn2 wn3 0 0 0 Sn
theorem b_X12_trial_b82 {g : q_G} {S0 : kp_S} {Bf : q_V → Option (Int64 × q_V)} {B : Nat → kp_S → (Int64 → kp_S → Prop) → Prop} {x1 : Int32} {xn2 : Int32} {wn3 : Int64} {Sn : kp_S} {post : Int64 → kp_S → Prop} {y : Int64} {v : q_V} (R : q_Gd 2 g S0 Sn) (hB : ∀ (S : kp_S) (y : Int64) (v : q_V) (post : Int64 → kp_S → Prop), q_Gd 2 g S0 S → Bf (q_w g S) = some (y, v) → (∀ S, q_Gd 2 g S0 S → v = q_w g S → post y S) → B (g 0 12 0) S post) (h : fX12_trial_b82 Bf x1 xn2 wn3 (q_w g Sn) = some (y, v)) (kk : ∀ S, q_Gd 2 g S0 S → v = q_w g S → post y S) : wX12_trial_b82 B (g 0 12 0) x1 xn2 wn3 Sn post := by
  unfold wX12_trial_b82; unfold fX12_trial_b82 at h
  exact ⟨q_N, b_X12_trial_L91 hB kk q_N _ _ _ _ _ _ R h⟩
def fX12_trial_b63 (B : q_V → Option (Int64 × q_V)) (x1 : Int32) (xn2 : Int32) (wn3 : Int64) (Sn : q_V) : Option (Int64 × q_V) :=
  q_bd (fX12_is 25 Sn) (fun y12002 T12001 =>
  if y12002 = 0 then
  fX12_trial_b82 B x1 xn2 wn3 T12001
  else
  if (xn2) < 0 ∨ 640 ≤ (xn2).toNatClampNeg then none else
  q_lt (q_sa T12001 2423 ((upd (q_a T12001 2423) (xn2.toNatClampNeg) (q_i T12001 2417)))) (fun T12004 =>
  fX12_trial_b82 B x1 xn2 wn3 T12004))
theorem b_X12_trial_b63 {g : q_G} {S0 : kp_S} {Bf : q_V → Option (Int64 × q_V)} {B : Nat → kp_S → (Int64 → kp_S → Prop) → Prop} {x1 : Int32} {xn2 : Int32} {wn3 : Int64} {Sn : kp_S} {post : Int64 → kp_S → Prop} {y : Int64} {v : q_V} (R : q_Gd 2 g S0 Sn) (hB : ∀ (S : kp_S) (y : Int64) (v : q_V) (post : Int64 → kp_S → Prop), q_Gd 2 g S0 S → Bf (q_w g S) = some (y, v) → (∀ S, q_Gd 2 g S0 S → v = q_w g S → post y S) → B (g 0 12 0) S post) (h : fX12_trial_b63 Bf x1 xn2 wn3 (q_w g Sn) = some (y, v)) (kk : ∀ S, q_Gd 2 g S0 S → v = q_w g S → post y S) : wX12_trial_b63 B (g 0 12 0) x1 xn2 wn3 Sn post := by
  unfold wX12_trial_b63; unfold fX12_trial_b63 at h
  obtain ⟨y12002, v1, h1, h⟩ := q_bdi h
  refine b_X12_is R h1 (fun T12001 R q => ?_)
  subst q
  refine ⟨fun c => ?_, fun c => ?_⟩
  · replace h := q_ifp h c
    exact b_X12_trial_b82 R hB h kk
  · replace h := q_ifn h c
    refine ⟨_, q_p2423 R, ?_⟩
    rw [q_l2423 R]
    obtain ⟨hi, h⟩ := q_in h
    refine ⟨hi, ?_⟩
    intro T12004 q
    obtain ⟨R, q⟩ := q_wA R q rfl
    replace h := q_ltw h q
    exact b_X12_trial_b82 R hB h kk
def fX12_trial (B : q_V → Option (Int64 × q_V)) (x1 : Int32) (S : q_V) : Option (Int64 × q_V) :=
  q_bd (fX12_describe x1 S) (fun y2 T1 =>
  q_lt (q_si T1 2410 (((q_i T1 2410) + 1))) (fun T3 =>
  q_bd (fX12_emit 50 y2 0 T3) (fun y5 T4 =>
  q_bd (B T4) (fun z7 T6 =>
  q_bd (fX12_emit 48 0 0 T6) (fun y9 T8 =>
  q_bd (fX12_is 25 T8) (fun y11 T10 =>
  if y11 = 0 then
  q_bd (fX12_is 27 T10) (fun y13 T12 =>
  if y13 = 0 then
  q_bv (fX12_wrong T12) (fun T14 =>
  some (0, T14))
  else
  fX12_trial_b63 B x1 y2 z7 T12)
  else
  fX12_trial_b63 B x1 y2 z7 T10))))))
theorem b_X12_trial {g : q_G} {S0 : kp_S} {Bf : q_V → Option (Int64 × q_V)} {B : Nat → kp_S → (Int64 → kp_S → Prop) → Prop} {x1 : Int32} {S : kp_S} {post : Int64 → kp_S → Prop} {y : Int64} {v : q_V} (R : q_Gd 2 g S0 S) (hB : ∀ (S : kp_S) (y : Int64) (v : q_V) (post : Int64 → kp_S → Prop), q_Gd 2 g S0 S → Bf (q_w g S) = some (y, v) → (∀ S, q_Gd 2 g S0 S → v = q_w g S → post y S) → B (g 0 12 0) S post) (h : fX12_trial Bf x1 (q_w g S) = some (y, v)) (kk : ∀ S, q_Gd 2 g S0 S → v = q_w g S → post y S) : wX12_trial B (g 0 12 0) x1 S post := by
  unfold wX12_trial; unfold fX12_trial at h
  obtain ⟨y2, v1, h1, h⟩ := q_bdi h
  refine b_X12_describe R h1 (fun T1 R q => ?_)
  subst q
  intro T3 q
  obtain ⟨R, q⟩ := q_wI R q rfl rfl
  replace h := q_ltw h q
  obtain ⟨y5, v1, h1, h⟩ := q_bdi h
  refine b_X12_emit R h1 (fun T4 R q => ?_)
  subst q
  obtain ⟨z7, v1, h1, h⟩ := q_bdi h
  refine hB _ _ _ _ R h1 (fun T6 R q => ?_)
  subst q
  obtain ⟨y9, v1, h1, h⟩ := q_bdi h
  refine b_X12_emit R h1 (fun T8 R q => ?_)
  subst q
  obtain ⟨y11, v1, h1, h⟩ := q_bdi h
  refine b_X12_is R h1 (fun T10 R q => ?_)
  subst q
  refine ⟨fun c => ?_, fun c => ?_⟩
  · replace h := q_ifn h c
    exact b_X12_trial_b63 R hB h kk
  · replace h := q_ifp h c
    obtain ⟨y13, v1, h1, h⟩ := q_bdi h
    refine b_X12_is R h1 (fun T12 R q => ?_)
    subst q
    refine ⟨fun c => ?_, fun c => ?_⟩
    · replace h := q_ifn h c
      exact b_X12_trial_b63 R hB h kk
    · replace h := q_ifp h c
      obtain ⟨v1, h1, h⟩ := q_bvi h
      refine b_X12_wrong R h1 (fun T14 R q => ?_)
      subst q
      exact q_fin h kk R
def fX12_hold (B : q_V → Option (Int64 × q_V)) (S : q_V) : Option (Int64 × q_V) :=
  q_lt (q_si S 2410 (((q_i S 2410) + 1))) (fun T1 =>
  q_bv (fX12_expression_t T1) (fun T2 =>
  q_bd (fX12_emit 49 0 0 T2) (fun y4 T3 =>
  q_bd (B T3) (fun z6 T5 =>
  q_bd (fX12_emit 48 0 0 T5) (fun y8 T7 =>
  if (y4) < 0 ∨ 4000 ≤ (y4).toNatClampNeg then none else
  q_lt (q_sa T7 2415 ((upd (q_a T7 2415) (y4.toNatClampNeg) (q_i T7 2417)))) (fun T10 =>
  some ((z6 ||| 4), T10)))))))
theorem b_X12_hold {g : q_G} {S0 : kp_S} {Bf : q_V → Option (Int64 × q_V)} {B : Nat → kp_S → (Int64 → kp_S → Prop) → Prop} {S : kp_S} {post : Int64 → kp_S → Prop} {y : Int64} {v : q_V} (R : q_Gd 2 g S0 S) (hB : ∀ (S : kp_S) (y : Int64) (v : q_V) (post : Int64 → kp_S → Prop), q_Gd 2 g S0 S → Bf (q_w g S) = some (y, v) → (∀ S, q_Gd 2 g S0 S → v = q_w g S → post y S) → B (g 0 12 0) S post) (h : fX12_hold Bf (q_w g S) = some (y, v)) (kk : ∀ S, q_Gd 2 g S0 S → v = q_w g S → post y S) : wX12_hold B (g 0 12 0) S post := by
  unfold wX12_hold; unfold fX12_hold at h
  intro T1 q
  obtain ⟨R, q⟩ := q_wI R q rfl rfl
  replace h := q_ltw h q
  obtain ⟨v1, h1, h⟩ := q_bvi h
  refine b_X12_expression_t R h1 (fun T2 R q => ?_)
  subst q
  obtain ⟨y4, v1, h1, h⟩ := q_bdi h
  refine b_X12_emit R h1 (fun T3 R q => ?_)
  subst q
  obtain ⟨z6, v1, h1, h⟩ := q_bdi h
  refine hB _ _ _ _ R h1 (fun T5 R q => ?_)
  subst q
  obtain ⟨y8, v1, h1, h⟩ := q_bdi h
  refine b_X12_emit R h1 (fun T7 R q => ?_)
  subst q
  refine ⟨_, q_p2415 R, ?_⟩
  rw [q_l2415 R]
  obtain ⟨hi, h⟩ := q_in h
  refine ⟨hi, ?_⟩
  intro T10 q
  obtain ⟨R, q⟩ := q_wA R q rfl
  replace h := q_ltw h q
  exact q_fin h kk R
def fX12_ensure_b109 (B : q_V → Option (Int64 × q_V)) (x1 : Int32) (wt0 : Int64) (Sn : q_V) : Option (Int64 × q_V) :=
  some (wt0, Sn)
theorem b_X12_ensure_b109 {g : q_G} {S0 : kp_S} {Bf : q_V → Option (Int64 × q_V)} {B : Nat → kp_S → (Int64 → kp_S → Prop) → Prop} {x1 : Int32} {wt0 : Int64} {Sn : kp_S} {post : Int64 → kp_S → Prop} {y : Int64} {v : q_V} (R : q_Gd 2 g S0 Sn) (hB : ∀ (S : kp_S) (y : Int64) (v : q_V) (post : Int64 → kp_S → Prop), q_Gd 2 g S0 S → Bf (q_w g S) = some (y, v) → (∀ S, q_Gd 2 g S0 S → v = q_w g S → post y S) → B (g 0 12 0) S post) (h : fX12_ensure_b109 Bf x1 wt0 (q_w g Sn) = some (y, v)) (kk : ∀ S, q_Gd 2 g S0 S → v = q_w g S → post y S) : wX12_ensure_b109 B (g 0 12 0) x1 wt0 Sn post := by
  unfold wX12_ensure_b109; unfold fX12_ensure_b109 at h
  exact q_fin h kk R
def fX12_ensure (B : q_V → Option (Int64 × q_V)) (x1 : Int32) (S : q_V) : Option (Int64 × q_V) :=
  q_bd (fX12_describe x1 S) (fun y2 T1 =>
  q_lt (q_si T1 2410 (((q_i T1 2410) + 1))) (fun T3 =>
  q_bd (fX12_emit 60 y2 0 T3) (fun y5 T4 =>
  q_bd (fX12_emit 41 0 0 T4) (fun y7 T6 =>
  if (y2) < 0 ∨ 640 ≤ (y2).toNatClampNeg then none else
  q_lt (q_sa T6 2418 ((upd (q_a T6 2418) (y2.toNatClampNeg) (q_i T6 2417)))) (fun T9 =>
  q_bv (fX12_expression_t T9) (fun T10 =>
  q_bd (fX12_emit 61 0 0 T10) (fun y12 T11 =>
  if (y7) < 0 ∨ 4000 ≤ (y7).toNatClampNeg then none else
  q_lt (q_sa T11 2415 ((upd (q_a T11 2415) (y7.toNatClampNeg) (q_i T11 2417)))) (fun T14 =>
  q_bd (B T14) (fun z16 T15 =>
  q_bd (fX12_emit 48 0 0 T15) (fun y18 T17 =>
  if (y2) < 0 ∨ 640 ≤ (y2).toNatClampNeg then none else
  q_lt (q_sa T17 2420 ((upd (q_a T17 2420) (y2.toNatClampNeg) (q_i T17 2417)))) (fun T20 =>
  if (lg_cmp z16 0) = 0 then
  fX12_ensure_b109 B x1 0 T20
  else
  fX12_ensure_b109 B x1 ((z16 ||| 4)) T20)))))))))))
theorem b_X12_ensure {g : q_G} {S0 : kp_S} {Bf : q_V → Option (Int64 × q_V)} {B : Nat → kp_S → (Int64 → kp_S → Prop) → Prop} {x1 : Int32} {S : kp_S} {post : Int64 → kp_S → Prop} {y : Int64} {v : q_V} (R : q_Gd 2 g S0 S) (hB : ∀ (S : kp_S) (y : Int64) (v : q_V) (post : Int64 → kp_S → Prop), q_Gd 2 g S0 S → Bf (q_w g S) = some (y, v) → (∀ S, q_Gd 2 g S0 S → v = q_w g S → post y S) → B (g 0 12 0) S post) (h : fX12_ensure Bf x1 (q_w g S) = some (y, v)) (kk : ∀ S, q_Gd 2 g S0 S → v = q_w g S → post y S) : wX12_ensure B (g 0 12 0) x1 S post := by
  unfold wX12_ensure; unfold fX12_ensure at h
  obtain ⟨y2, v1, h1, h⟩ := q_bdi h
  refine b_X12_describe R h1 (fun T1 R q => ?_)
  subst q
  intro T3 q
  obtain ⟨R, q⟩ := q_wI R q rfl rfl
  replace h := q_ltw h q
  obtain ⟨y5, v1, h1, h⟩ := q_bdi h
  refine b_X12_emit R h1 (fun T4 R q => ?_)
  subst q
  obtain ⟨y7, v1, h1, h⟩ := q_bdi h
  refine b_X12_emit R h1 (fun T6 R q => ?_)
  subst q
  refine ⟨_, q_p2418 R, ?_⟩
  rw [q_l2418 R]
  obtain ⟨hi, h⟩ := q_in h
  refine ⟨hi, ?_⟩
  intro T9 q
  obtain ⟨R, q⟩ := q_wA R q rfl
  replace h := q_ltw h q
  obtain ⟨v1, h1, h⟩ := q_bvi h
  refine b_X12_expression_t R h1 (fun T10 R q => ?_)
  subst q
  obtain ⟨y12, v1, h1, h⟩ := q_bdi h
  refine b_X12_emit R h1 (fun T11 R q => ?_)
  subst q
  refine ⟨_, q_p2415 R, ?_⟩
  rw [q_l2415 R]
  obtain ⟨hi, h⟩ := q_in h
  refine ⟨hi, ?_⟩
  intro T14 q
  obtain ⟨R, q⟩ := q_wA R q rfl
  replace h := q_ltw h q
  obtain ⟨z16, v1, h1, h⟩ := q_bdi h
  refine hB _ _ _ _ R h1 (fun T15 R q => ?_)
  subst q
  obtain ⟨y18, v1, h1, h⟩ := q_bdi h
  refine b_X12_emit R h1 (fun T17 R q => ?_)
  subst q
  refine ⟨_, q_p2420 R, ?_⟩
  rw [q_l2420 R]
  obtain ⟨hi, h⟩ := q_in h
  refine ⟨hi, ?_⟩
  intro T20 q
  obtain ⟨R, q⟩ := q_wA R q rfl
  replace h := q_ltw h q
  refine ⟨fun c => ?_, fun c => ?_⟩
  · replace h := q_ifn h c
    exact b_X12_ensure_b109 R hB h kk
  · replace h := q_ifp h c
    exact b_X12_ensure_b109 R hB h kk
def fX12_later (B : q_V → Option (Int64 × q_V)) (x1 : Int32) (S : q_V) : Option (Int64 × q_V) :=
  q_lt (q_si S 2410 (((q_i S 2410) + 1))) (fun T1 =>
  if (x1) < 0 ∨ 3002 ≤ (x1).toNatClampNeg then none else
  q_bd (fX12_emit 54 0 ((q_a T1 2405 x1.toNatClampNeg)) T1) (fun y4 T3 =>
  q_bd (fX12_emit 41 0 0 T3) (fun y6 T5 =>
  if (y4) < 0 ∨ 4000 ≤ (y4).toNatClampNeg then none else
  q_lt (q_sa T5 2415 ((upd (q_a T5 2415) (y4.toNatClampNeg) (q_i T5 2417)))) (fun T8 =>
  q_lt ((q_i T8 2446) : Int32) (fun y9 =>
  q_lt (q_si T8 2446 ((q_i T8 2445))) (fun T10 =>
  q_bd (B T10) (fun z12 T11 =>
  q_lt (q_sj T11 2426 (((q_j T11 2426) ||| z12))) (fun T13 =>
  q_lt (q_si T13 2446 y9) (fun T14 =>
  q_bd (fX12_emit 48 0 0 T14) (fun y16 T15 =>
  if (y6) < 0 ∨ 4000 ≤ (y6).toNatClampNeg then none else
  q_lt (q_sa T15 2415 ((upd (q_a T15 2415) (y6.toNatClampNeg) (q_i T15 2417)))) (fun T18 =>
  some (5, T18))))))))))))
theorem b_X12_later {g : q_G} {S0 : kp_S} {Bf : q_V → Option (Int64 × q_V)} {B : Nat → kp_S → (Int64 → kp_S → Prop) → Prop} {x1 : Int32} {S : kp_S} {post : Int64 → kp_S → Prop} {y : Int64} {v : q_V} (R : q_Gd 2 g S0 S) (hB : ∀ (S : kp_S) (y : Int64) (v : q_V) (post : Int64 → kp_S → Prop), q_Gd 2 g S0 S → Bf (q_w g S) = some (y, v) → (∀ S, q_Gd 2 g S0 S → v = q_w g S → post y S) → B (g 0 12 0) S post) (h : fX12_later Bf x1 (q_w g S) = some (y, v)) (kk : ∀ S, q_Gd 2 g S0 S → v = q_w g S → post y S) : wX12_later B (g 0 12 0) x1 S post := by
  unfold wX12_later; unfold fX12_later at h
  intro T1 q
  obtain ⟨R, q⟩ := q_wI R q rfl rfl
  replace h := q_ltw h q
  refine ⟨_, q_p2405 R, ?_⟩
  rw [q_l2405 R]
  obtain ⟨hi, h⟩ := q_in h
  refine ⟨hi, ?_⟩
  obtain ⟨y4, v1, h1, h⟩ := q_bdi h
  refine b_X12_emit R h1 (fun T3 R q => ?_)
  subst q
  obtain ⟨y6, v1, h1, h⟩ := q_bdi h
  refine b_X12_emit R h1 (fun T5 R q => ?_)
  subst q
  refine ⟨_, q_p2415 R, ?_⟩
  rw [q_l2415 R]
  obtain ⟨hi, h⟩ := q_in h
  refine ⟨hi, ?_⟩
  intro T8 q
  obtain ⟨R, q⟩ := q_wA R q rfl
  replace h := q_ltw h q
  intro y9 q
  replace h := q_ltw h q
  intro T10 q
  obtain ⟨R, q⟩ := q_wI R q rfl rfl
  replace h := q_ltw h q
  obtain ⟨z12, v1, h1, h⟩ := q_bdi h
  refine hB _ _ _ _ R h1 (fun T11 R q => ?_)
  subst q
  intro T13 q
  obtain ⟨R, q⟩ := q_wJ R q rfl rfl
  replace h := q_ltw h q
  intro T14 q
  obtain ⟨R, q⟩ := q_wI R q rfl rfl
  replace h := q_ltw h q
  obtain ⟨y16, v1, h1, h⟩ := q_bdi h
  refine b_X12_emit R h1 (fun T15 R q => ?_)
  subst q
  refine ⟨_, q_p2415 R, ?_⟩
  rw [q_l2415 R]
  obtain ⟨hi, h⟩ := q_in h
  refine ⟨hi, ?_⟩
  intro T18 q
  obtain ⟨R, q⟩ := q_wA R q rfl
  replace h := q_ltw h q
  exact q_fin h kk R
def fX12_statement_b397 (B : q_V → Option (Int64 × q_V)) (Sn : q_V) : Option (Int64 × q_V) :=
  q_bv (fX12_wrong Sn) (fun T1001 =>
  some (0, T1001))
theorem b_X12_statement_b397 {g : q_G} {S0 : kp_S} {Bf : q_V → Option (Int64 × q_V)} {B : Nat → kp_S → (Int64 → kp_S → Prop) → Prop} {Sn : kp_S} {post : Int64 → kp_S → Prop} {y : Int64} {v : q_V} (R : q_Gd 2 g S0 Sn) (hB : ∀ (S : kp_S) (y : Int64) (v : q_V) (post : Int64 → kp_S → Prop), q_Gd 2 g S0 S → Bf (q_w g S) = some (y, v) → (∀ S, q_Gd 2 g S0 S → v = q_w g S → post y S) → B (g 0 12 0) S post) (h : fX12_statement_b397 Bf (q_w g Sn) = some (y, v)) (kk : ∀ S, q_Gd 2 g S0 S → v = q_w g S → post y S) : wX12_statement_b397 B (g 0 12 0) Sn post := by
  unfold wX12_statement_b397; unfold fX12_statement_b397 at h
  obtain ⟨v1, h1, h⟩ := q_bvi h
  refine b_X12_wrong R h1 (fun T1001 R q => ?_)
  subst q
  exact q_fin h kk R
def fX12_statement_b336 (B : q_V → Option (Int64 × q_V)) (xn1 : Int32) (Sn : q_V) : Option (Int64 × q_V) :=
  q_bd (fX12_loop B xn1 0 Sn) (fun z2002 T2001 =>
  some (z2002, T2001))
theorem b_X12_statement_b336 {g : q_G} {S0 : kp_S} {Bf : q_V → Option (Int64 × q_V)} {B : Nat → kp_S → (Int64 → kp_S → Prop) → Prop} {xn1 : Int32} {Sn : kp_S} {post : Int64 → kp_S → Prop} {y : Int64} {v : q_V} (R : q_Gd 2 g S0 Sn) (hB : ∀ (S : kp_S) (y : Int64) (v : q_V) (post : Int64 → kp_S → Prop), q_Gd 2 g S0 S → Bf (q_w g S) = some (y, v) → (∀ S, q_Gd 2 g S0 S → v = q_w g S → post y S) → B (g 0 12 0) S post) (h : fX12_statement_b336 Bf xn1 (q_w g Sn) = some (y, v)) (kk : ∀ S, q_Gd 2 g S0 S → v = q_w g S → post y S) : wX12_statement_b336 B (g 0 12 0) xn1 Sn post := by
  unfold wX12_statement_b336; unfold fX12_statement_b336 at h
  obtain ⟨z2002, v1, h1, h⟩ := q_bdi h
  refine b_X12_loop R hB h1 (fun T2001 R q => ?_)
  subst q
  exact q_fin h kk R
def fX12_statement (B : q_V → Option (Int64 × q_V)) (S : q_V) : Option (Int64 × q_V) :=
  q_bd (fX12_isSign 123 S) (fun y2 T1 =>
  if y2 = 0 then
  q_lt ((q_i T1 2410) : Int32) (fun y3 =>
  if (y3) < 0 ∨ 3002 ≤ (y3).toNatClampNeg then none else
  q_bd (fX12_emit 30 ((q_a T1 2405 y3.toNatClampNeg)) 0 T1) (fun y6 T5 =>
  q_lt (q_si T5 2425 0) (fun T7 =>
  if (y3) < 0 ∨ 3002 ≤ (y3).toNatClampNeg then none else
  q_lt ((q_a T7 2404 y3.toNatClampNeg) : Int32) (fun y9 =>
  if y9 = 2 then
  q_bd (fX12_named B y3 T7) (fun z12 T11 =>
  some (z12, T11))
  else
  if y9 = 3 then
  fX12_statement_b397 B T7
  else
  if y9 = 4 then
  fX12_statement_b397 B T7
  else
  if y9 = 5 then
  fX12_statement_b397 B T7
  else
  if y9 = 6 then
  fX12_statement_b397 B T7
  else
  if y9 = 7 then
  fX12_statement_b397 B T7
  else
  if y9 = 8 then
  fX12_statement_b397 B T7
  else
  if y9 = 9 then
  fX12_statement_b397 B T7
  else
  if y9 = 10 then
  fX12_statement_b397 B T7
  else
  if y9 = 11 then
  q_bd (fX12_variable T7) (fun z23 T22 =>
  some (z23, T22))
  else
  if y9 = 12 then
  q_bd (fX12_order 1 31 1 T7) (fun z26 T25 =>
  q_bd (fX12_risky z26 T25) (fun z28 T27 =>
  some (z28, T27)))
  else
  if y9 = 13 then
  q_bd (fX12_choice B T7) (fun z31 T30 =>
  some (z31, T30))
  else
  if y9 = 14 then
  fX12_statement_b397 B T7
  else
  if y9 = 15 then
  fX12_statement_b336 B y3 T7
  else
  if y9 = 16 then
  fX12_statement_b336 B y3 T7
  else
  if y9 = 17 then
  fX12_statement_b397 B T7
  else
  if y9 = 18 then
  fX12_statement_b397 B T7
  else
  if y9 = 19 then
  q_bd (fX12_away 39 8 T7) (fun z39 T38 =>
  some (z39, T38))
  else
  if y9 = 20 then
  q_bd (fX12_away 40 1048576 T7) (fun z42 T41 =>
  some (z42, T41))
  else
  if y9 = 21 then
  q_bd (fX12_answer T7) (fun z45 T44 =>
  some (z45, T44))
  else
  if y9 = 22 then
  q_bd (fX12_order 1 36 4 T7) (fun z48 T47 =>
  some (z48, T47))
  else
  if y9 = 23 then
  q_bd (fX12_hold B T7) (fun z51 T50 =>
  some (z51, T50))
  else
  if y9 = 24 then
  q_bd (fX12_trial B y3 T7) (fun z54 T53 =>
  some (z54, T53))
  else
  if y9 = 25 then
  fX12_statement_b397 B T7
  else
  if y9 = 26 then
  fX12_statement_b397 B T7
  else
  if y9 = 27 then
  fX12_statement_b397 B T7
  else
  if y9 = 28 then
  q_bd (fX12_later B y3 T7) (fun z60 T59 =>
  some (z60, T59))
  else
  if y9 = 29 then
  q_bd (fX12_order 0 37 0 T7) (fun z63 T62 =>
  some (z63, T62))
  else
  if y9 = 30 then
  fX12_statement_b397 B T7
  else
  if y9 = 31 then
  fX12_statement_b397 B T7
  else
  if y9 = 32 then
  fX12_statement_b397 B T7
  else
  if y9 = 33 then
  q_bd (fX12_order 2 32 5 T7) (fun z69 T68 =>
  some (z69, T68))
  else
  if y9 = 34 then
  q_bd (fX12_order 2 33 5 T7) (fun z72 T71 =>
  some (z72, T71))
  else
  if y9 = 35 then
  q_bd (fX12_order 3 34 5 T7) (fun z75 T74 =>
  some (z75, T74))
  else
  if y9 = 36 then
  q_bd (fX12_order 2 35 5 T7) (fun z78 T77 =>
  some (z78, T77))
  else
  if y9 = 37 then
  fX12_statement_b397 B T7
  else
  if y9 = 38 then
  fX12_statement_b397 B T7
  else
  if y9 = 39 then
  fX12_statement_b397 B T7
  else
  if y9 = 40 then
  fX12_statement_b397 B T7
  else
  if y9 = 41 then
  fX12_statement_b397 B T7
  else
  if y9 = 42 then
  fX12_statement_b397 B T7
  else
  if y9 = 43 then
  fX12_statement_b397 B T7
  else
  if y9 = 44 then
  q_bd (fX12_ensure B y3 T7) (fun z88 T87 =>
  some (z88, T87))
  else
  if y9 = 45 then
  fX12_statement_b336 B y3 T7
  else
  if y9 = 46 then
  fX12_statement_b397 B T7
  else
  if y9 = 47 then
  q_bd (fX12_choose B T7) (fun z93 T92 =>
  some (z93, T92))
  else
  fX12_statement_b397 B T7))))
  else
  q_bd (B T1) (fun z95 T94 =>
  some (z95, T94)))
theorem b_X12_statement {g : q_G} {S0 : kp_S} {Bf : q_V → Option (Int64 × q_V)} {B : Nat → kp_S → (Int64 → kp_S → Prop) → Prop} {S : kp_S} {post : Int64 → kp_S → Prop} {y : Int64} {v : q_V} (R : q_Gd 2 g S0 S) (hB : ∀ (S : kp_S) (y : Int64) (v : q_V) (post : Int64 → kp_S → Prop), q_Gd 2 g S0 S → Bf (q_w g S) = some (y, v) → (∀ S, q_Gd 2 g S0 S → v = q_w g S → post y S) → B (g 0 12 0) S post) (h : fX12_statement Bf (q_w g S) = some (y, v)) (kk : ∀ S, q_Gd 2 g S0 S → v = q_w g S → post y S) : wX12_statement B (g 0 12 0) S post := by
  unfold wX12_statement; unfold fX12_statement at h
  obtain ⟨y2, v1, h1, h⟩ := q_bdi h
  refine b_X12_isSign R h1 (fun T1 R q => ?_)
  subst q
  refine ⟨fun c => ?_, fun c => ?_⟩
  · replace h := q_ifp h c
    intro y3 q
    replace h := q_ltw h q
    refine ⟨_, q_p2405 R, ?_⟩
    rw [q_l2405 R]
    obtain ⟨hi, h⟩ := q_in h
    refine ⟨hi, ?_⟩
    obtain ⟨y6, v1, h1, h⟩ := q_bdi h
    refine b_X12_emit R h1 (fun T5 R q => ?_)
    subst q
    intro T7 q
    obtain ⟨R, q⟩ := q_wI R q rfl rfl
    replace h := q_ltw h q
    refine ⟨_, q_p2404 R, ?_⟩
    rw [q_l2404 R]
    obtain ⟨hi, h⟩ := q_in h
    refine ⟨hi, ?_⟩
    intro y9 q
    replace h := q_ltw h q
    refine ⟨fun c => ?_, fun c => ?_⟩
    · replace h := q_ifp h c
      obtain ⟨z12, v1, h1, h⟩ := q_bdi h
      refine b_X12_named R hB h1 (fun T11 R q => ?_)
      subst q
      exact q_fin h kk R
    · replace h := q_ifn h c
      refine ⟨fun c => ?_, fun c => ?_⟩
      · replace h := q_ifp h c
        exact b_X12_statement_b397 R hB h kk
      · replace h := q_ifn h c
        refine ⟨fun c => ?_, fun c => ?_⟩
        · replace h := q_ifp h c
          exact b_X12_statement_b397 R hB h kk
        · replace h := q_ifn h c
          refine ⟨fun c => ?_, fun c => ?_⟩
          · replace h := q_ifp h c
            exact b_X12_statement_b397 R hB h kk
          · replace h := q_ifn h c
            refine ⟨fun c => ?_, fun c => ?_⟩
            · replace h := q_ifp h c
              exact b_X12_statement_b397 R hB h kk
            · replace h := q_ifn h c
              refine ⟨fun c => ?_, fun c => ?_⟩
              · replace h := q_ifp h c
                exact b_X12_statement_b397 R hB h kk
              · replace h := q_ifn h c
                refine ⟨fun c => ?_, fun c => ?_⟩
                · replace h := q_ifp h c
                  exact b_X12_statement_b397 R hB h kk
                · replace h := q_ifn h c
                  refine ⟨fun c => ?_, fun c => ?_⟩
                  · replace h := q_ifp h c
                    exact b_X12_statement_b397 R hB h kk
                  · replace h := q_ifn h c
                    refine ⟨fun c => ?_, fun c => ?_⟩
                    · replace h := q_ifp h c
                      exact b_X12_statement_b397 R hB h kk
                    · replace h := q_ifn h c
                      refine ⟨fun c => ?_, fun c => ?_⟩
                      · replace h := q_ifp h c
                        obtain ⟨z23, v1, h1, h⟩ := q_bdi h
                        refine b_X12_variable R h1 (fun T22 R q => ?_)
                        subst q
                        exact q_fin h kk R
                      · replace h := q_ifn h c
                        refine ⟨fun c => ?_, fun c => ?_⟩
                        · replace h := q_ifp h c
                          obtain ⟨z26, v1, h1, h⟩ := q_bdi h
                          refine b_X12_order R h1 (fun T25 R q => ?_)
                          subst q
                          obtain ⟨z28, v1, h1, h⟩ := q_bdi h
                          refine b_X12_risky R h1 (fun T27 R q => ?_)
                          subst q
                          exact q_fin h kk R
                        · replace h := q_ifn h c
                          refine ⟨fun c => ?_, fun c => ?_⟩
                          · replace h := q_ifp h c
                            obtain ⟨z31, v1, h1, h⟩ := q_bdi h
                            refine b_X12_choice R hB h1 (fun T30 R q => ?_)
                            subst q
                            exact q_fin h kk R
                          · replace h := q_ifn h c
                            refine ⟨fun c => ?_, fun c => ?_⟩
                            · replace h := q_ifp h c
                              exact b_X12_statement_b397 R hB h kk
                            · replace h := q_ifn h c
                              refine ⟨fun c => ?_, fun c => ?_⟩
                              · replace h := q_ifp h c
                                exact b_X12_statement_b336 R hB h kk
                              · replace h := q_ifn h c
                                refine ⟨fun c => ?_, fun c => ?_⟩
                                · replace h := q_ifp h c
                                  exact b_X12_statement_b336 R hB h kk
                                · replace h := q_ifn h c
                                  refine ⟨fun c => ?_, fun c => ?_⟩
                                  · replace h := q_ifp h c
                                    exact b_X12_statement_b397 R hB h kk
                                  · replace h := q_ifn h c
                                    refine ⟨fun c => ?_, fun c => ?_⟩
                                    · replace h := q_ifp h c
                                      exact b_X12_statement_b397 R hB h kk
                                    · replace h := q_ifn h c
                                      refine ⟨fun c => ?_, fun c => ?_⟩
                                      · replace h := q_ifp h c
                                        obtain ⟨z39, v1, h1, h⟩ := q_bdi h
                                        refine b_X12_away R h1 (fun T38 R q => ?_)
                                        subst q
                                        exact q_fin h kk R
                                      · replace h := q_ifn h c
                                        refine ⟨fun c => ?_, fun c => ?_⟩
                                        · replace h := q_ifp h c
                                          obtain ⟨z42, v1, h1, h⟩ := q_bdi h
                                          refine b_X12_away R h1 (fun T41 R q => ?_)
                                          subst q
                                          exact q_fin h kk R
                                        · replace h := q_ifn h c
                                          refine ⟨fun c => ?_, fun c => ?_⟩
                                          · replace h := q_ifp h c
                                            obtain ⟨z45, v1, h1, h⟩ := q_bdi h
                                            refine b_X12_answer R h1 (fun T44 R q => ?_)
                                            subst q
                                            exact q_fin h kk R
                                          · replace h := q_ifn h c
                                            refine ⟨fun c => ?_, fun c => ?_⟩
                                            · replace h := q_ifp h c
                                              obtain ⟨z48, v1, h1, h⟩ := q_bdi h
                                              refine b_X12_order R h1 (fun T47 R q => ?_)
                                              subst q
                                              exact q_fin h kk R
                                            · replace h := q_ifn h c
                                              refine ⟨fun c => ?_, fun c => ?_⟩
                                              · replace h := q_ifp h c
                                                obtain ⟨z51, v1, h1, h⟩ := q_bdi h
                                                refine b_X12_hold R hB h1 (fun T50 R q => ?_)
                                                subst q
                                                exact q_fin h kk R
                                              · replace h := q_ifn h c
                                                refine ⟨fun c => ?_, fun c => ?_⟩
                                                · replace h := q_ifp h c
                                                  obtain ⟨z54, v1, h1, h⟩ := q_bdi h
                                                  refine b_X12_trial R hB h1 (fun T53 R q => ?_)
                                                  subst q
                                                  exact q_fin h kk R
                                                · replace h := q_ifn h c
                                                  refine ⟨fun c => ?_, fun c => ?_⟩
                                                  · replace h := q_ifp h c
                                                    exact b_X12_statement_b397 R hB h kk
                                                  · replace h := q_ifn h c
                                                    refine ⟨fun c => ?_, fun c => ?_⟩
                                                    · replace h := q_ifp h c
                                                      exact b_X12_statement_b397 R hB h kk
                                                    · replace h := q_ifn h c
                                                      refine ⟨fun c => ?_, fun c => ?_⟩
                                                      · replace h := q_ifp h c
                                                        exact b_X12_statement_b397 R hB h kk
                                                      · replace h := q_ifn h c
                                                        refine ⟨fun c => ?_, fun c => ?_⟩
                                                        · replace h := q_ifp h c
                                                          obtain ⟨z60, v1, h1, h⟩ := q_bdi h
                                                          refine b_X12_later R hB h1 (fun T59 R q => ?_)
                                                          subst q
                                                          exact q_fin h kk R
                                                        · replace h := q_ifn h c
                                                          refine ⟨fun c => ?_, fun c => ?_⟩
                                                          · replace h := q_ifp h c
                                                            obtain ⟨z63, v1, h1, h⟩ := q_bdi h
                                                            refine b_X12_order R h1 (fun T62 R q => ?_)
                                                            subst q
                                                            exact q_fin h kk R
                                                          · replace h := q_ifn h c
                                                            refine ⟨fun c => ?_, fun c => ?_⟩
                                                            · replace h := q_ifp h c
                                                              exact b_X12_statement_b397 R hB h kk
                                                            · replace h := q_ifn h c
                                                              refine ⟨fun c => ?_, fun c => ?_⟩
                                                              · replace h := q_ifp h c
                                                                exact b_X12_statement_b397 R hB h kk
                                                              · replace h := q_ifn h c
                                                                refine ⟨fun c => ?_, fun c => ?_⟩
                                                                · replace h := q_ifp h c
                                                                  exact b_X12_statement_b397 R hB h kk
                                                                · replace h := q_ifn h c
                                                                  refine ⟨fun c => ?_, fun c => ?_⟩
                                                                  · replace h := q_ifp h c
                                                                    obtain ⟨z69, v1, h1, h⟩ := q_bdi h
                                                                    refine b_X12_order R h1 (fun T68 R q => ?_)
                                                                    subst q
                                                                    exact q_fin h kk R
                                                                  · replace h := q_ifn h c
                                                                    refine ⟨fun c => ?_, fun c => ?_⟩
                                                                    · replace h := q_ifp h c
                                                                      obtain ⟨z72, v1, h1, h⟩ := q_bdi h
                                                                      refine b_X12_order R h1 (fun T71 R q => ?_)
                                                                      subst q
                                                                      exact q_fin h kk R
                                                                    · replace h := q_ifn h c
                                                                      refine ⟨fun c => ?_, fun c => ?_⟩
                                                                      · replace h := q_ifp h c
                                                                        obtain ⟨z75, v1, h1, h⟩ := q_bdi h
                                                                        refine b_X12_order R h1 (fun T74 R q => ?_)
                                                                        subst q
                                                                        exact q_fin h kk R
                                                                      · replace h := q_ifn h c
                                                                        refine ⟨fun c => ?_, fun c => ?_⟩
                                                                        · replace h := q_ifp h c
                                                                          obtain ⟨z78, v1, h1, h⟩ := q_bdi h
                                                                          refine b_X12_order R h1 (fun T77 R q => ?_)
                                                                          subst q
                                                                          exact q_fin h kk R
                                                                        · replace h := q_ifn h c
                                                                          refine ⟨fun c => ?_, fun c => ?_⟩
                                                                          · replace h := q_ifp h c
                                                                            exact b_X12_statement_b397 R hB h kk
                                                                          · replace h := q_ifn h c
                                                                            refine ⟨fun c => ?_, fun c => ?_⟩
                                                                            · replace h := q_ifp h c
                                                                              exact b_X12_statement_b397 R hB h kk
                                                                            · replace h := q_ifn h c
                                                                              refine ⟨fun c => ?_, fun c => ?_⟩
                                                                              · replace h := q_ifp h c
                                                                                exact b_X12_statement_b397 R hB h kk
                                                                              · replace h := q_ifn h c
                                                                                refine ⟨fun c => ?_, fun c => ?_⟩
                                                                                · replace h := q_ifp h c
                                                                                  exact b_X12_statement_b397 R hB h kk
                                                                                · replace h := q_ifn h c
                                                                                  refine ⟨fun c => ?_, fun c => ?_⟩
                                                                                  · replace h := q_ifp h c
                                                                                    exact b_X12_statement_b397 R hB h kk
                                                                                  · replace h := q_ifn h c
                                                                                    refine ⟨fun c => ?_, fun c => ?_⟩
                                                                                    · replace h := q_ifp h c
                                                                                      exact b_X12_statement_b397 R hB h kk
                                                                                    · replace h := q_ifn h c
                                                                                      refine ⟨fun c => ?_, fun c => ?_⟩
                                                                                      · replace h := q_ifp h c
                                                                                        exact b_X12_statement_b397 R hB h kk
                                                                                      · replace h := q_ifn h c
                                                                                        refine ⟨fun c => ?_, fun c => ?_⟩
                                                                                        · replace h := q_ifp h c
                                                                                          obtain ⟨z88, v1, h1, h⟩ := q_bdi h
                                                                                          refine b_X12_ensure R hB h1 (fun T87 R q => ?_)
                                                                                          subst q
                                                                                          exact q_fin h kk R
                                                                                        · replace h := q_ifn h c
                                                                                          refine ⟨fun c => ?_, fun c => ?_⟩
                                                                                          · replace h := q_ifp h c
                                                                                            exact b_X12_statement_b336 R hB h kk
                                                                                          · replace h := q_ifn h c
                                                                                            refine ⟨fun c => ?_, fun c => ?_⟩
                                                                                            · replace h := q_ifp h c
                                                                                              exact b_X12_statement_b397 R hB h kk
                                                                                            · replace h := q_ifn h c
                                                                                              refine ⟨fun c => ?_, fun c => ?_⟩
                                                                                              · replace h := q_ifp h c
                                                                                                obtain ⟨z93, v1, h1, h⟩ := q_bdi h
                                                                                                refine b_X12_choose R hB h1 (fun T92 R q => ?_)
                                                                                                subst q
                                                                                                exact q_fin h kk R
                                                                                              · replace h := q_ifn h c
                                                                                                exact b_X12_statement_b397 R hB h kk
  · replace h := q_ifn h c
    obtain ⟨z95, v1, h1, h⟩ := q_bdi h
    refine hB _ _ _ _ R h1 (fun T94 R q => ?_)
    subst q
    exact q_fin h kk R
def fX12_block_b72 (B : q_V → Option (Int64 × q_V)) (xn1 : Int32) (wn2 : Int64) (Sn : q_V) : Option (Int64 × q_V) :=
  q_bv (fX12_takeSign 125 Sn) (fun T1001 =>
  q_lt (q_si T1001 2411 (((q_i T1001 2411) - 1))) (fun T1002 =>
  q_lt (q_si T1002 2441 xn1) (fun T1003 =>
  some (wn2, T1003))))
theorem b_X12_block_b72 {g : q_G} {S0 : kp_S} {Bf : q_V → Option (Int64 × q_V)} {B : Nat → kp_S → (Int64 → kp_S → Prop) → Prop} {xn1 : Int32} {wn2 : Int64} {Sn : kp_S} {post : Int64 → kp_S → Prop} {y : Int64} {v : q_V} (R : q_Gd 2 g S0 Sn) (hB : ∀ (S : kp_S) (y : Int64) (v : q_V) (post : Int64 → kp_S → Prop), q_Gd 2 g S0 S → Bf (q_w g S) = some (y, v) → (∀ S, q_Gd 2 g S0 S → v = q_w g S → post y S) → B (g 0 12 0) S post) (h : fX12_block_b72 Bf xn1 wn2 (q_w g Sn) = some (y, v)) (kk : ∀ S, q_Gd 2 g S0 S → v = q_w g S → post y S) : wX12_block_b72 B (g 0 12 0) xn1 wn2 Sn post := by
  unfold wX12_block_b72; unfold fX12_block_b72 at h
  obtain ⟨v1, h1, h⟩ := q_bvi h
  refine b_X12_takeSign R h1 (fun T1001 R q => ?_)
  subst q
  intro T1002 q
  obtain ⟨R, q⟩ := q_wI R q rfl rfl
  replace h := q_ltw h q
  intro T1003 q
  obtain ⟨R, q⟩ := q_wI R q rfl rfl
  replace h := q_ltw h q
  exact q_fin h kk R
def fX12_block_b68 (B : q_V → Option (Int64 × q_V)) (xn1 : Int32) (wt0 : Int64) (K26 : Int32 → Int64 → q_V → Option (Int64 × q_V)) (Sn : q_V) : Option (Int64 × q_V) :=
  K26 xn1 wt0 Sn
theorem b_X12_block_b68 {g : q_G} {S0 : kp_S} {Bf : q_V → Option (Int64 × q_V)} {B : Nat → kp_S → (Int64 → kp_S → Prop) → Prop} {xn1 : Int32} {wt0 : Int64} {K26f : Int32 → Int64 → q_V → Option (Int64 × q_V)} {K26 : Int32 → Int64 → kp_S → Prop} {Sn : kp_S} {post : Int64 → kp_S → Prop} {y : Int64} {v : q_V} (R : q_Gd 2 g S0 Sn) (hB : ∀ (S : kp_S) (y : Int64) (v : q_V) (post : Int64 → kp_S → Prop), q_Gd 2 g S0 S → Bf (q_w g S) = some (y, v) → (∀ S, q_Gd 2 g S0 S → v = q_w g S → post y S) → B (g 0 12 0) S post) (hK26 : ∀ (x0 : Int32) (x1 : Int64) (S : kp_S), q_Gd 2 g S0 S → K26f x0 x1 (q_w g S) = some (y, v) → K26 x0 x1 S) (h : fX12_block_b68 Bf xn1 wt0 K26f (q_w g Sn) = some (y, v)) (kk : ∀ S, q_Gd 2 g S0 S → v = q_w g S → post y S) : wX12_block_b68 B (g 0 12 0) xn1 wt0 K26 Sn post := by
  unfold wX12_block_b68; unfold fX12_block_b68 at h
  exact hK26 _ _ _ R h
def fX12_block_L26 (B : q_V → Option (Int64 × q_V)) : Nat → Int32 → Int64 → q_V → Option (Int64 × q_V)
  | 0, _, _, _ => none
  | n + 1, xn1, wn2, Sn =>
  q_bd (fX12_fine Sn) (fun y3002 T3001 =>
  if y3002 = 0 then
  fX12_block_b72 B xn1 wn2 T3001
  else
  q_bd (fX12_isSign 125 T3001) (fun y3004 T3003 =>
  if y3004 = 0 then
  q_bd (fX12_statement B T3003) (fun z3006 T3005 =>
  if (lg_cmp (wn2 &&& 1) 0) = 0 then
  fX12_block_b68 B xn1 wn2 (fun xn1_ wn2_ S_ => fX12_block_L26 B n xn1_ wn2_ S_) T3005
  else
  fX12_block_b68 B xn1 (((wn2 &&& (- 2)) ||| z3006)) (fun xn1_ wn2_ S_ => fX12_block_L26 B n xn1_ wn2_ S_) T3005)
  else
  fX12_block_b72 B xn1 wn2 T3003))
theorem b_X12_block_L26 {g : q_G} {S0 : kp_S} {Bf : q_V → Option (Int64 × q_V)} {B : Nat → kp_S → (Int64 → kp_S → Prop) → Prop} {post : Int64 → kp_S → Prop} {y : Int64} {v : q_V} (hB : ∀ (S : kp_S) (y : Int64) (v : q_V) (post : Int64 → kp_S → Prop), q_Gd 2 g S0 S → Bf (q_w g S) = some (y, v) → (∀ S, q_Gd 2 g S0 S → v = q_w g S → post y S) → B (g 0 12 0) S post) (kk : ∀ S, q_Gd 2 g S0 S → v = q_w g S → post y S) : ∀ (n : Nat) (xn1 : Int32) (wn2 : Int64) (Sn : kp_S), q_Gd 2 g S0 Sn → fX12_block_L26 Bf n xn1 wn2 (q_w g Sn) = some (y, v) → wX12_block_L26 B (g 0 12 0) post n xn1 wn2 Sn := by
  intro n
  induction n with
  | zero => intro xn1 wn2 Sn _ h; cases h
  | succ n ih =>
    intro xn1 wn2 Sn R h
    unfold wX12_block_L26; unfold fX12_block_L26 at h
    obtain ⟨y3002, v1, h1, h⟩ := q_bdi h
    refine b_X12_fine R h1 (fun T3001 R q => ?_)
    subst q
    refine ⟨fun c => ?_, fun c => ?_⟩
    · replace h := q_ifp h c
      exact b_X12_block_b72 R hB h kk
    · replace h := q_ifn h c
      obtain ⟨y3004, v1, h1, h⟩ := q_bdi h
      refine b_X12_isSign R h1 (fun T3003 R q => ?_)
      subst q
      refine ⟨fun c => ?_, fun c => ?_⟩
      · replace h := q_ifn h c
        exact b_X12_block_b72 R hB h kk
      · replace h := q_ifp h c
        obtain ⟨z3006, v1, h1, h⟩ := q_bdi h
        refine b_X12_statement R hB h1 (fun T3005 R q => ?_)
        subst q
        refine ⟨fun c => ?_, fun c => ?_⟩
        · replace h := q_ifn h c
          exact b_X12_block_b68 R hB (fun xn1_ wn2_ S_ R h => ih xn1_ wn2_ S_ R h) h kk
        · replace h := q_ifp h c
          exact b_X12_block_b68 R hB (fun xn1_ wn2_ S_ R h => ih xn1_ wn2_ S_ R h) h kk
def fX12_block (B : q_V → Option (Int64 × q_V)) (S : q_V) : Option (Int64 × q_V) :=
  q_bd (fX12_isSign 123 S) (fun y2 T1 =>
  if y2 = 0 then
  q_bv (fX12_wrong T1) (fun T5 =>
  some (0, T5))
  else
  q_bv (fX12_nest T1) (fun T3 =>
  q_lt ((q_i T3 2441) : Int32) (fun y4 =>
  fX12_block_L26 B q_N y4 1 T3)))
theorem b_X12_block {g : q_G} {S0 : kp_S} {Bf : q_V → Option (Int64 × q_V)} {B : Nat → kp_S → (Int64 → kp_S → Prop) → Prop} {S : kp_S} {post : Int64 → kp_S → Prop} {y : Int64} {v : q_V} (R : q_Gd 2 g S0 S) (hB : ∀ (S : kp_S) (y : Int64) (v : q_V) (post : Int64 → kp_S → Prop), q_Gd 2 g S0 S → Bf (q_w g S) = some (y, v) → (∀ S, q_Gd 2 g S0 S → v = q_w g S → post y S) → B (g 0 12 0) S post) (h : fX12_block Bf (q_w g S) = some (y, v)) (kk : ∀ S, q_Gd 2 g S0 S → v = q_w g S → post y S) : wX12_block B (g 0 12 0) S post := by
  unfold wX12_block; unfold fX12_block at h
  obtain ⟨y2, v1, h1, h⟩ := q_bdi h
  refine b_X12_isSign R h1 (fun T1 R q => ?_)
  subst q
  refine ⟨fun c => ?_, fun c => ?_⟩
  · replace h := q_ifn h c
    obtain ⟨v1, h1, h⟩ := q_bvi h
    refine b_X12_nest R h1 (fun T3 R q => ?_)
    subst q
    intro y4 q
    replace h := q_ltw h q
    exact ⟨q_N, b_X12_block_L26 hB kk q_N _ _ _ R h⟩
  · replace h := q_ifp h c
    obtain ⟨v1, h1, h⟩ := q_bvi h
    refine b_X12_wrong R h1 (fun T5 R q => ?_)
    subst q
    exact q_fin h kk R
def fx12s_rec : Nat → Nat → q_V → Option (Int64 × q_V)
  | 0, _, _ => none
  | n + 1, _, v => fX12_block (fx12s_rec n 0) v
theorem b_x12s_rec {g : q_G} {S0 : kp_S} : ∀ n : Nat, (∀ (S : kp_S) (y : Int64) (v : q_V) (post : Int64 → kp_S → Prop), q_Gd 2 g S0 S → fx12s_rec n 0 (q_w g S) = some (y, v) → (∀ S, q_Gd 2 g S0 S → v = q_w g S → post y S) → wx12s_rec n 0 (g 0 12 0) S post) := by
  intro n
  induction n with
  | zero => intro S y v post R h kk; cases h
  | succ n ih => intro S y v post R h kk; exact b_X12_block R ih h kk
def fX12_block_t (v : q_V) : Option (Int64 × q_V) := fX12_block (fx12s_rec 16 0) v
theorem b_X12_block_t {g : q_G} {S0 : kp_S} {S : kp_S} {post : Int64 → kp_S → Prop} {y : Int64} {v : q_V} (R : q_Gd 2 g S0 S) (h : fX12_block_t (q_w g S) = some (y, v)) (kk : ∀ S, q_Gd 2 g S0 S → v = q_w g S → post y S) : wX12_block_t (g 0 12 0) S post := b_X12_block R (b_x12s_rec 16) h kk
