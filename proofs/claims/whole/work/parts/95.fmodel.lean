/-! The functions of the methods, and the rows that they speak for the w. (generated: wip/whole/gen2.py) -/
def fX12_thrown (S : q_V) : Option (Int32 × q_V) :=
  some ((q_i S 2400), S)
theorem b_X12_thrown {g : q_G} {S0 : kp_S} {S : kp_S} {post : Int32 → kp_S → Prop} {y : Int32} {v : q_V} (R : q_Gd 2 g S0 S)  (h : fX12_thrown (q_w g S) = some (y, v)) (kk : ∀ S, q_Gd 2 g S0 S → v = q_w g S → post y S) : wX12_thrown (g 0 12 0) S post := by
  unfold wX12_thrown; unfold fX12_thrown at h
  exact q_fin h kk R
def fX12_putFour_b47 (x1 : Int32) (xn2 : Int32) (xt0 : Int32) (xt1 : Int32) (K3 : Int32 → q_V → Option q_V) (Sn : q_V) : Option q_V :=
  if (xt1) < 0 ∨ 3000 ≤ (xt1).toNatClampNeg then none else
  q_lt (q_sa Sn 2401 ((upd (q_a Sn 2401) (xt1.toNatClampNeg) xt0))) (fun T1001 =>
  q_lt (q_si T1001 2402 (((q_i T1001 2402) + 1))) (fun T1002 =>
  q_lt (xn2 + (- 8) : Int32) (fun y1003 =>
  K3 y1003 T1002)))
theorem b_X12_putFour_b47 {g : q_G} {S0 : kp_S} {x1 : Int32} {xn2 : Int32} {xt0 : Int32} {xt1 : Int32} {K3f : Int32 → q_V → Option q_V} {K3 : Int32 → kp_S → Prop} {Sn : kp_S} {post : kp_S → Prop} {v : q_V} (R : q_Gd 2 g S0 Sn) (hK3 : ∀ (x0 : Int32) (S : kp_S), q_Gd 2 g S0 S → K3f x0 (q_w g S) = some v → K3 x0 S) (h : fX12_putFour_b47 x1 xn2 xt0 xt1 K3f (q_w g Sn) = some v) (kk : ∀ S, q_Gd 2 g S0 S → v = q_w g S → post S) : wX12_putFour_b47 (g 0 12 0) x1 xn2 xt0 xt1 (g 1 2401 0) K3 Sn post := by
  unfold wX12_putFour_b47; unfold fX12_putFour_b47 at h
  rw [q_l2401 R]
  obtain ⟨hi, h⟩ := q_in h
  refine ⟨hi, ?_⟩
  intro T1001 q
  obtain ⟨R, q⟩ := q_wA R q rfl
  replace h := q_ltw h q
  intro T1002 q
  obtain ⟨R, q⟩ := q_wI R q rfl rfl
  replace h := q_ltw h q
  intro y1003 q
  replace h := q_ltw h q
  exact hK3 _ _ R h
def fX12_putFour_b41 (x1 : Int32) (xn2 : Int32) (xn3 : Int32) (xt0 : Int32) (K3 : Int32 → q_V → Option q_V) (Sn : q_V) : Option q_V :=
  fX12_putFour_b47 x1 xn2 xn3 xt0 K3 Sn
theorem b_X12_putFour_b41 {g : q_G} {S0 : kp_S} {x1 : Int32} {xn2 : Int32} {xn3 : Int32} {xt0 : Int32} {K3f : Int32 → q_V → Option q_V} {K3 : Int32 → kp_S → Prop} {Sn : kp_S} {post : kp_S → Prop} {v : q_V} (R : q_Gd 2 g S0 Sn) (hK3 : ∀ (x0 : Int32) (S : kp_S), q_Gd 2 g S0 S → K3f x0 (q_w g S) = some v → K3 x0 S) (h : fX12_putFour_b41 x1 xn2 xn3 xt0 K3f (q_w g Sn) = some v) (kk : ∀ S, q_Gd 2 g S0 S → v = q_w g S → post S) : wX12_putFour_b41 (g 0 12 0) x1 xn2 xn3 xt0 (g 1 2401 0) K3 Sn post := by
  unfold wX12_putFour_b41; unfold fX12_putFour_b41 at h
  exact b_X12_putFour_b47 R hK3 h kk
def fX12_putFour_b45 (x1 : Int32) (xn2 : Int32) (xt0 : Int32) (K3 : Int32 → q_V → Option q_V) (Sn : q_V) : Option q_V :=
  fX12_putFour_b47 x1 xn2 32 xt0 K3 Sn
theorem b_X12_putFour_b45 {g : q_G} {S0 : kp_S} {x1 : Int32} {xn2 : Int32} {xt0 : Int32} {K3f : Int32 → q_V → Option q_V} {K3 : Int32 → kp_S → Prop} {Sn : kp_S} {post : kp_S → Prop} {v : q_V} (R : q_Gd 2 g S0 Sn) (hK3 : ∀ (x0 : Int32) (S : kp_S), q_Gd 2 g S0 S → K3f x0 (q_w g S) = some v → K3 x0 S) (h : fX12_putFour_b45 x1 xn2 xt0 K3f (q_w g Sn) = some v) (kk : ∀ S, q_Gd 2 g S0 S → v = q_w g S → post S) : wX12_putFour_b45 (g 0 12 0) x1 xn2 xt0 (g 1 2401 0) K3 Sn post := by
  unfold wX12_putFour_b45; unfold fX12_putFour_b45 at h
  exact b_X12_putFour_b47 R hK3 h kk
def fX12_putFour_L3 (x1 : Int32) : Nat → Int32 → q_V → Option q_V
  | 0, _, _ => none
  | n + 1, xn2, Sn =>
  if xn2 < 0 then
  some Sn
  else
  q_lt (((x1 >>> (xn2 &&& 31)) &&& 255) : Int32) (fun y4001 =>
  if y4001 = 10 then
  fX12_putFour_b41 x1 xn2 y4001 ((q_i Sn 2402)) (fun xn2_ S_ => fX12_putFour_L3 x1 n xn2_ S_) Sn
  else
  if y4001 < 32 then
  fX12_putFour_b45 x1 xn2 ((q_i Sn 2402)) (fun xn2_ S_ => fX12_putFour_L3 x1 n xn2_ S_) Sn
  else
  if 126 < y4001 then
  fX12_putFour_b45 x1 xn2 ((q_i Sn 2402)) (fun xn2_ S_ => fX12_putFour_L3 x1 n xn2_ S_) Sn
  else
  fX12_putFour_b41 x1 xn2 y4001 ((q_i Sn 2402)) (fun xn2_ S_ => fX12_putFour_L3 x1 n xn2_ S_) Sn)
theorem b_X12_putFour_L3 {g : q_G} {S0 : kp_S} {x1 : Int32} {post : kp_S → Prop} {v : q_V}  (kk : ∀ S, q_Gd 2 g S0 S → v = q_w g S → post S) : ∀ (n : Nat) (xn2 : Int32) (Sn : kp_S), q_Gd 2 g S0 Sn → fX12_putFour_L3 x1 n xn2 (q_w g Sn) = some v → wX12_putFour_L3 (g 0 12 0) x1 post n xn2 Sn := by
  intro n
  induction n with
  | zero => intro xn2 Sn _ h; cases h
  | succ n ih =>
    intro xn2 Sn R h
    unfold wX12_putFour_L3; unfold fX12_putFour_L3 at h
    refine ⟨fun c => ?_, fun c => ?_⟩
    · replace h := q_ifp h c
      exact q_finv h kk R
    · replace h := q_ifn h c
      intro y4001 q
      replace h := q_ltw h q
      refine ⟨_, q_p2401 R, ?_⟩
      refine ⟨fun c => ?_, fun c => ?_⟩
      · replace h := q_ifp h c
        exact b_X12_putFour_b41 R (fun xn2_ S_ R h => ih xn2_ S_ R h) h kk
      · replace h := q_ifn h c
        refine ⟨fun c => ?_, fun c => ?_⟩
        · replace h := q_ifp h c
          exact b_X12_putFour_b45 R (fun xn2_ S_ R h => ih xn2_ S_ R h) h kk
        · replace h := q_ifn h c
          refine ⟨fun c => ?_, fun c => ?_⟩
          · replace h := q_ifp h c
            exact b_X12_putFour_b45 R (fun xn2_ S_ R h => ih xn2_ S_ R h) h kk
          · replace h := q_ifn h c
            exact b_X12_putFour_b41 R (fun xn2_ S_ R h => ih xn2_ S_ R h) h kk
def fX12_putFour (x1 : Int32) (S : q_V) : Option q_V :=
  fX12_putFour_L3 x1 q_N 24 S
theorem b_X12_putFour {g : q_G} {S0 : kp_S} {x1 : Int32} {S : kp_S} {post : kp_S → Prop} {v : q_V} (R : q_Gd 2 g S0 S)  (h : fX12_putFour x1 (q_w g S) = some v) (kk : ∀ S, q_Gd 2 g S0 S → v = q_w g S → post S) : wX12_putFour (g 0 12 0) x1 S post := by
  unfold wX12_putFour; unfold fX12_putFour at h
  exact ⟨q_N, b_X12_putFour_L3 kk q_N _ _ R h⟩
def fX12_feed (x1 : Int32) (x2 : Int32) (x3 : Int32) (x4 : Int32) (x5 : Int32) (S : q_V) : Option (Int32 × q_V) :=
  q_lt (q_si S 2400 0) (fun T1 =>
  if ((q_i T1 2402) + 20) ≤ 3000 then
  q_bv (fX12_putFour x1 T1) (fun T2 =>
  q_bv (fX12_putFour x2 T2) (fun T3 =>
  q_bv (fX12_putFour x3 T3) (fun T4 =>
  q_bv (fX12_putFour x4 T4) (fun T5 =>
  q_bv (fX12_putFour x5 T5) (fun T6 =>
  some (1, T6))))))
  else
  some (0, T1))
theorem b_X12_feed {g : q_G} {S0 : kp_S} {x1 : Int32} {x2 : Int32} {x3 : Int32} {x4 : Int32} {x5 : Int32} {S : kp_S} {post : Int32 → kp_S → Prop} {y : Int32} {v : q_V} (R : q_Gd 2 g S0 S)  (h : fX12_feed x1 x2 x3 x4 x5 (q_w g S) = some (y, v)) (kk : ∀ S, q_Gd 2 g S0 S → v = q_w g S → post y S) : wX12_feed (g 0 12 0) x1 x2 x3 x4 x5 S post := by
  unfold wX12_feed; unfold fX12_feed at h
  intro T1 q
  obtain ⟨R, q⟩ := q_wI R q rfl rfl
  replace h := q_ltw h q
  refine ⟨fun c => ?_, fun c => ?_⟩
  · replace h := q_ifp h c
    obtain ⟨v1, h1, h⟩ := q_bvi h
    refine b_X12_putFour R h1 (fun T2 R q => ?_)
    subst q
    obtain ⟨v1, h1, h⟩ := q_bvi h
    refine b_X12_putFour R h1 (fun T3 R q => ?_)
    subst q
    obtain ⟨v1, h1, h⟩ := q_bvi h
    refine b_X12_putFour R h1 (fun T4 R q => ?_)
    subst q
    obtain ⟨v1, h1, h⟩ := q_bvi h
    refine b_X12_putFour R h1 (fun T5 R q => ?_)
    subst q
    obtain ⟨v1, h1, h⟩ := q_bvi h
    refine b_X12_putFour R h1 (fun T6 R q => ?_)
    subst q
    exact q_fin h kk R
  · replace h := q_ifn h c
    exact q_fin h kk R
def fX12_end_b17 (x1 : Int32) (Sn : q_V) : Option (Int32 × q_V) :=
  some (0, Sn)
theorem b_X12_end_b17 {g : q_G} {S0 : kp_S} {x1 : Int32} {Sn : kp_S} {post : Int32 → kp_S → Prop} {y : Int32} {v : q_V} (R : q_Gd 2 g S0 Sn)  (h : fX12_end_b17 x1 (q_w g Sn) = some (y, v)) (kk : ∀ S, q_Gd 2 g S0 S → v = q_w g S → post y S) : wX12_end_b17 (g 0 12 0) x1 Sn post := by
  unfold wX12_end_b17; unfold fX12_end_b17 at h
  exact q_fin h kk R
def fX12_end (x1 : Int32) (S : q_V) : Option (Int32 × q_V) :=
  q_lt (q_si S 2400 0) (fun T1 =>
  if x1 < 0 then
  fX12_end_b17 x1 T1
  else
  if x1 ≤ (q_i T1 2402) then
  q_lt (q_si T1 2402 x1) (fun T2 =>
  some (1, T2))
  else
  fX12_end_b17 x1 T1)
theorem b_X12_end {g : q_G} {S0 : kp_S} {x1 : Int32} {S : kp_S} {post : Int32 → kp_S → Prop} {y : Int32} {v : q_V} (R : q_Gd 2 g S0 S)  (h : fX12_end x1 (q_w g S) = some (y, v)) (kk : ∀ S, q_Gd 2 g S0 S → v = q_w g S → post y S) : wX12_end (g 0 12 0) x1 S post := by
  unfold wX12_end; unfold fX12_end at h
  intro T1 q
  obtain ⟨R, q⟩ := q_wI R q rfl rfl
  replace h := q_ltw h q
  refine ⟨fun c => ?_, fun c => ?_⟩
  · replace h := q_ifp h c
    exact b_X12_end_b17 R h kk
  · replace h := q_ifn h c
    refine ⟨fun c => ?_, fun c => ?_⟩
    · replace h := q_ifp h c
      intro T2 q
      obtain ⟨R, q⟩ := q_wI R q rfl rfl
      replace h := q_ltw h q
      exact q_fin h kk R
    · replace h := q_ifn h c
      exact b_X12_end_b17 R h kk
def fX12_at_b18 (x1 : Int32) (xt0 : Int32) (Sn : q_V) : Option (Int32 × q_V) :=
  some (xt0, Sn)
theorem b_X12_at_b18 {g : q_G} {S0 : kp_S} {x1 : Int32} {xt0 : Int32} {Sn : kp_S} {post : Int32 → kp_S → Prop} {y : Int32} {v : q_V} (R : q_Gd 2 g S0 Sn)  (h : fX12_at_b18 x1 xt0 (q_w g Sn) = some (y, v)) (kk : ∀ S, q_Gd 2 g S0 S → v = q_w g S → post y S) : wX12_at_b18 (g 0 12 0) x1 xt0 Sn post := by
  unfold wX12_at_b18; unfold fX12_at_b18 at h
  exact q_fin h kk R
def fX12_at (x1 : Int32) (S : q_V) : Option (Int32 × q_V) :=
  if (q_i S 2402) ≤ x1 then
  fX12_at_b18 x1 0 S
  else
  if (x1) < 0 ∨ 3000 ≤ (x1).toNatClampNeg then none else
  fX12_at_b18 x1 ((q_a S 2401 x1.toNatClampNeg)) S
theorem b_X12_at {g : q_G} {S0 : kp_S} {x1 : Int32} {S : kp_S} {post : Int32 → kp_S → Prop} {y : Int32} {v : q_V} (R : q_Gd 2 g S0 S)  (h : fX12_at x1 (q_w g S) = some (y, v)) (kk : ∀ S, q_Gd 2 g S0 S → v = q_w g S → post y S) : wX12_at (g 0 12 0) x1 S post := by
  unfold wX12_at; unfold fX12_at at h
  refine ⟨fun c => ?_, fun c => ?_⟩
  · replace h := q_ifp h c
    exact b_X12_at_b18 R h kk
  · replace h := q_ifn h c
    refine ⟨_, q_p2401 R, ?_⟩
    rw [q_l2401 R]
    obtain ⟨hi, h⟩ := q_in h
    refine ⟨hi, ?_⟩
    exact b_X12_at_b18 R h kk
def fX12_isLetter_b17 (x0 : Int32) (xt0 : Int32) (Sn : q_V) : Option (Int32 × q_V) :=
  if ¬ (xt0 = 0 ∨ xt0 = 1) then none else
  some (xt0, Sn)
theorem b_X12_isLetter_b17 {g : q_G} {S0 : kp_S} {x0 : Int32} {xt0 : Int32} {Sn : kp_S} {post : Int32 → kp_S → Prop} {y : Int32} {v : q_V} (R : q_Gd 2 g S0 Sn)  (h : fX12_isLetter_b17 x0 xt0 (q_w g Sn) = some (y, v)) (kk : ∀ S, q_Gd 2 g S0 S → v = q_w g S → post y S) : wX12_isLetter_b17 x0 xt0 Sn post := by
  unfold wX12_isLetter_b17; unfold fX12_isLetter_b17 at h
  obtain ⟨hi, h⟩ := q_in h
  refine ⟨Classical.not_not.mp hi, ?_⟩
  exact q_fin h kk R
def fX12_isLetter_b16 (x0 : Int32) (Sn : q_V) : Option (Int32 × q_V) :=
  fX12_isLetter_b17 x0 0 Sn
theorem b_X12_isLetter_b16 {g : q_G} {S0 : kp_S} {x0 : Int32} {Sn : kp_S} {post : Int32 → kp_S → Prop} {y : Int32} {v : q_V} (R : q_Gd 2 g S0 Sn)  (h : fX12_isLetter_b16 x0 (q_w g Sn) = some (y, v)) (kk : ∀ S, q_Gd 2 g S0 S → v = q_w g S → post y S) : wX12_isLetter_b16 x0 Sn post := by
  unfold wX12_isLetter_b16; unfold fX12_isLetter_b16 at h
  exact b_X12_isLetter_b17 R h kk
def fX12_isLetter (x0 : Int32) (S : q_V) : Option (Int32 × q_V) :=
  if x0 < 97 then
  fX12_isLetter_b16 x0 S
  else
  if 122 < x0 then
  fX12_isLetter_b16 x0 S
  else
  fX12_isLetter_b17 x0 1 S
theorem b_X12_isLetter {g : q_G} {S0 : kp_S} {x0 : Int32} {S : kp_S} {post : Int32 → kp_S → Prop} {y : Int32} {v : q_V} (R : q_Gd 2 g S0 S)  (h : fX12_isLetter x0 (q_w g S) = some (y, v)) (kk : ∀ S, q_Gd 2 g S0 S → v = q_w g S → post y S) : wX12_isLetter x0 S post := by
  unfold wX12_isLetter; unfold fX12_isLetter at h
  refine ⟨fun c => ?_, fun c => ?_⟩
  · replace h := q_ifp h c
    exact b_X12_isLetter_b16 R h kk
  · replace h := q_ifn h c
    refine ⟨fun c => ?_, fun c => ?_⟩
    · replace h := q_ifp h c
      exact b_X12_isLetter_b16 R h kk
    · replace h := q_ifn h c
      exact b_X12_isLetter_b17 R h kk
def fX12_isDigit_b17 (x0 : Int32) (xt0 : Int32) (Sn : q_V) : Option (Int32 × q_V) :=
  if ¬ (xt0 = 0 ∨ xt0 = 1) then none else
  some (xt0, Sn)
theorem b_X12_isDigit_b17 {g : q_G} {S0 : kp_S} {x0 : Int32} {xt0 : Int32} {Sn : kp_S} {post : Int32 → kp_S → Prop} {y : Int32} {v : q_V} (R : q_Gd 2 g S0 Sn)  (h : fX12_isDigit_b17 x0 xt0 (q_w g Sn) = some (y, v)) (kk : ∀ S, q_Gd 2 g S0 S → v = q_w g S → post y S) : wX12_isDigit_b17 x0 xt0 Sn post := by
  unfold wX12_isDigit_b17; unfold fX12_isDigit_b17 at h
  obtain ⟨hi, h⟩ := q_in h
  refine ⟨Classical.not_not.mp hi, ?_⟩
  exact q_fin h kk R
def fX12_isDigit_b16 (x0 : Int32) (Sn : q_V) : Option (Int32 × q_V) :=
  fX12_isDigit_b17 x0 0 Sn
theorem b_X12_isDigit_b16 {g : q_G} {S0 : kp_S} {x0 : Int32} {Sn : kp_S} {post : Int32 → kp_S → Prop} {y : Int32} {v : q_V} (R : q_Gd 2 g S0 Sn)  (h : fX12_isDigit_b16 x0 (q_w g Sn) = some (y, v)) (kk : ∀ S, q_Gd 2 g S0 S → v = q_w g S → post y S) : wX12_isDigit_b16 x0 Sn post := by
  unfold wX12_isDigit_b16; unfold fX12_isDigit_b16 at h
  exact b_X12_isDigit_b17 R h kk
def fX12_isDigit (x0 : Int32) (S : q_V) : Option (Int32 × q_V) :=
  if x0 < 48 then
  fX12_isDigit_b16 x0 S
  else
  if 57 < x0 then
  fX12_isDigit_b16 x0 S
  else
  fX12_isDigit_b17 x0 1 S
theorem b_X12_isDigit {g : q_G} {S0 : kp_S} {x0 : Int32} {S : kp_S} {post : Int32 → kp_S → Prop} {y : Int32} {v : q_V} (R : q_Gd 2 g S0 S)  (h : fX12_isDigit x0 (q_w g S) = some (y, v)) (kk : ∀ S, q_Gd 2 g S0 S → v = q_w g S → post y S) : wX12_isDigit x0 S post := by
  unfold wX12_isDigit; unfold fX12_isDigit at h
  refine ⟨fun c => ?_, fun c => ?_⟩
  · replace h := q_ifp h c
    exact b_X12_isDigit_b16 R h kk
  · replace h := q_ifn h c
    refine ⟨fun c => ?_, fun c => ?_⟩
    · replace h := q_ifp h c
      exact b_X12_isDigit_b16 R h kk
    · replace h := q_ifn h c
      exact b_X12_isDigit_b17 R h kk
def fX12_behindBlanks_b87 (x1 : Int32) (xn2 : Int32) (Sn : q_V) : Option (Int32 × q_V) :=
  some (xn2, Sn)
theorem b_X12_behindBlanks_b87 {g : q_G} {S0 : kp_S} {x1 : Int32} {xn2 : Int32} {Sn : kp_S} {post : Int32 → kp_S → Prop} {y : Int32} {v : q_V} (R : q_Gd 2 g S0 Sn)  (h : fX12_behindBlanks_b87 x1 xn2 (q_w g Sn) = some (y, v)) (kk : ∀ S, q_Gd 2 g S0 S → v = q_w g S → post y S) : wX12_behindBlanks_b87 (g 0 12 0) x1 xn2 Sn post := by
  unfold wX12_behindBlanks_b87; unfold fX12_behindBlanks_b87 at h
  exact q_fin h kk R
def fX12_behindBlanks_b80 (x1 : Int32) (xn2 : Int32) (xt0 : Int32) (K4 : Int32 → Int32 → q_V → Option (Int32 × q_V)) (Sn : q_V) : Option (Int32 × q_V) :=
  q_lt (xn2 + 1 : Int32) (fun y2001 =>
  K4 y2001 xt0 Sn)
theorem b_X12_behindBlanks_b80 {g : q_G} {S0 : kp_S} {x1 : Int32} {xn2 : Int32} {xt0 : Int32} {K4f : Int32 → Int32 → q_V → Option (Int32 × q_V)} {K4 : Int32 → Int32 → kp_S → Prop} {Sn : kp_S} {post : Int32 → kp_S → Prop} {y : Int32} {v : q_V} (R : q_Gd 2 g S0 Sn) (hK4 : ∀ (x0 : Int32) (x1 : Int32) (S : kp_S), q_Gd 2 g S0 S → K4f x0 x1 (q_w g S) = some (y, v) → K4 x0 x1 S) (h : fX12_behindBlanks_b80 x1 xn2 xt0 K4f (q_w g Sn) = some (y, v)) (kk : ∀ S, q_Gd 2 g S0 S → v = q_w g S → post y S) : wX12_behindBlanks_b80 (g 0 12 0) x1 xn2 xt0 K4 Sn post := by
  unfold wX12_behindBlanks_b80; unfold fX12_behindBlanks_b80 at h
  intro y2001 q
  replace h := q_ltw h q
  exact hK4 _ _ _ R h
def fX12_behindBlanks_b79 (x1 : Int32) (xn2 : Int32) (K4 : Int32 → Int32 → q_V → Option (Int32 × q_V)) (Sn : q_V) : Option (Int32 × q_V) :=
  fX12_behindBlanks_b80 x1 xn2 0 K4 Sn
theorem b_X12_behindBlanks_b79 {g : q_G} {S0 : kp_S} {x1 : Int32} {xn2 : Int32} {K4f : Int32 → Int32 → q_V → Option (Int32 × q_V)} {K4 : Int32 → Int32 → kp_S → Prop} {Sn : kp_S} {post : Int32 → kp_S → Prop} {y : Int32} {v : q_V} (R : q_Gd 2 g S0 Sn) (hK4 : ∀ (x0 : Int32) (x1 : Int32) (S : kp_S), q_Gd 2 g S0 S → K4f x0 x1 (q_w g S) = some (y, v) → K4 x0 x1 S) (h : fX12_behindBlanks_b79 x1 xn2 K4f (q_w g Sn) = some (y, v)) (kk : ∀ S, q_Gd 2 g S0 S → v = q_w g S → post y S) : wX12_behindBlanks_b79 (g 0 12 0) x1 xn2 K4 Sn post := by
  unfold wX12_behindBlanks_b79; unfold fX12_behindBlanks_b79 at h
  exact b_X12_behindBlanks_b80 R hK4 h kk
def fX12_behindBlanks_b75 (x1 : Int32) (xn2 : Int32) (K4 : Int32 → Int32 → q_V → Option (Int32 × q_V)) (Sn : q_V) : Option (Int32 × q_V) :=
  fX12_behindBlanks_b80 x1 xn2 1 K4 Sn
theorem b_X12_behindBlanks_b75 {g : q_G} {S0 : kp_S} {x1 : Int32} {xn2 : Int32} {K4f : Int32 → Int32 → q_V → Option (Int32 × q_V)} {K4 : Int32 → Int32 → kp_S → Prop} {Sn : kp_S} {post : Int32 → kp_S → Prop} {y : Int32} {v : q_V} (R : q_Gd 2 g S0 Sn) (hK4 : ∀ (x0 : Int32) (x1 : Int32) (S : kp_S), q_Gd 2 g S0 S → K4f x0 x1 (q_w g S) = some (y, v) → K4 x0 x1 S) (h : fX12_behindBlanks_b75 x1 xn2 K4f (q_w g Sn) = some (y, v)) (kk : ∀ S, q_Gd 2 g S0 S → v = q_w g S → post y S) : wX12_behindBlanks_b75 (g 0 12 0) x1 xn2 K4 Sn post := by
  unfold wX12_behindBlanks_b75; unfold fX12_behindBlanks_b75 at h
  exact b_X12_behindBlanks_b80 R hK4 h kk
def fX12_behindBlanks_b49 (x1 : Int32) (xn2 : Int32) (xn3 : Int32) (K4 : Int32 → Int32 → q_V → Option (Int32 × q_V)) (Sn : q_V) : Option (Int32 × q_V) :=
  if (xn2) < 0 ∨ 3000 ≤ (xn2).toNatClampNeg then none else
  if (q_a Sn 2401 xn2.toNatClampNeg) = 10 then
  fX12_behindBlanks_b79 x1 xn2 K4 Sn
  else
  if xn3 = 0 then
  if (xn2) < 0 ∨ 3000 ≤ (xn2).toNatClampNeg then none else
  if (q_a Sn 2401 xn2.toNatClampNeg) = 35 then
  fX12_behindBlanks_b75 x1 xn2 K4 Sn
  else
  fX12_behindBlanks_b79 x1 xn2 K4 Sn
  else
  fX12_behindBlanks_b75 x1 xn2 K4 Sn
theorem b_X12_behindBlanks_b49 {g : q_G} {S0 : kp_S} {x1 : Int32} {xn2 : Int32} {xn3 : Int32} {K4f : Int32 → Int32 → q_V → Option (Int32 × q_V)} {K4 : Int32 → Int32 → kp_S → Prop} {Sn : kp_S} {post : Int32 → kp_S → Prop} {y : Int32} {v : q_V} (R : q_Gd 2 g S0 Sn) (hK4 : ∀ (x0 : Int32) (x1 : Int32) (S : kp_S), q_Gd 2 g S0 S → K4f x0 x1 (q_w g S) = some (y, v) → K4 x0 x1 S) (h : fX12_behindBlanks_b49 x1 xn2 xn3 K4f (q_w g Sn) = some (y, v)) (kk : ∀ S, q_Gd 2 g S0 S → v = q_w g S → post y S) : wX12_behindBlanks_b49 (g 0 12 0) x1 xn2 xn3 K4 Sn post := by
  unfold wX12_behindBlanks_b49; unfold fX12_behindBlanks_b49 at h
  refine ⟨_, q_p2401 R, ?_⟩
  rw [q_l2401 R]
  obtain ⟨hi, h⟩ := q_in h
  refine ⟨hi, ?_⟩
  refine ⟨fun c => ?_, fun c => ?_⟩
  · replace h := q_ifp h c
    exact b_X12_behindBlanks_b79 R hK4 h kk
  · replace h := q_ifn h c
    refine ⟨fun c => ?_, fun c => ?_⟩
    · replace h := q_ifn h c
      exact b_X12_behindBlanks_b75 R hK4 h kk
    · replace h := q_ifp h c
      obtain ⟨hi, h⟩ := q_in h
      refine ⟨hi, ?_⟩
      refine ⟨fun c => ?_, fun c => ?_⟩
      · replace h := q_ifn h c
        exact b_X12_behindBlanks_b79 R hK4 h kk
      · replace h := q_ifp h c
        exact b_X12_behindBlanks_b75 R hK4 h kk
def fX12_behindBlanks_L4 (x1 : Int32) : Nat → Int32 → Int32 → q_V → Option (Int32 × q_V)
  | 0, _, _, _ => none
  | n + 1, xn2, xn3, Sn =>
  if (q_i Sn 2402) ≤ xn2 then
  fX12_behindBlanks_b87 x1 xn2 Sn
  else
  if xn3 = 0 then
  if (xn2) < 0 ∨ 3000 ≤ (xn2).toNatClampNeg then none else
  if (q_a Sn 2401 xn2.toNatClampNeg) = 10 then
  fX12_behindBlanks_b49 x1 xn2 xn3 (fun xn2_ xn3_ S_ => fX12_behindBlanks_L4 x1 n xn2_ xn3_ S_) Sn
  else
  if (xn2) < 0 ∨ 3000 ≤ (xn2).toNatClampNeg then none else
  if (q_a Sn 2401 xn2.toNatClampNeg) = 32 then
  fX12_behindBlanks_b49 x1 xn2 xn3 (fun xn2_ xn3_ S_ => fX12_behindBlanks_L4 x1 n xn2_ xn3_ S_) Sn
  else
  if (xn2) < 0 ∨ 3000 ≤ (xn2).toNatClampNeg then none else
  if (q_a Sn 2401 xn2.toNatClampNeg) = 35 then
  fX12_behindBlanks_b49 x1 xn2 xn3 (fun xn2_ xn3_ S_ => fX12_behindBlanks_L4 x1 n xn2_ xn3_ S_) Sn
  else
  fX12_behindBlanks_b87 x1 xn2 Sn
  else
  fX12_behindBlanks_b49 x1 xn2 xn3 (fun xn2_ xn3_ S_ => fX12_behindBlanks_L4 x1 n xn2_ xn3_ S_) Sn
theorem b_X12_behindBlanks_L4 {g : q_G} {S0 : kp_S} {x1 : Int32} {post : Int32 → kp_S → Prop} {y : Int32} {v : q_V}  (kk : ∀ S, q_Gd 2 g S0 S → v = q_w g S → post y S) : ∀ (n : Nat) (xn2 : Int32) (xn3 : Int32) (Sn : kp_S), q_Gd 2 g S0 Sn → fX12_behindBlanks_L4 x1 n xn2 xn3 (q_w g Sn) = some (y, v) → wX12_behindBlanks_L4 (g 0 12 0) x1 post n xn2 xn3 Sn := by
  intro n
  induction n with
  | zero => intro xn2 xn3 Sn _ h; cases h
  | succ n ih =>
    intro xn2 xn3 Sn R h
    unfold wX12_behindBlanks_L4; unfold fX12_behindBlanks_L4 at h
    refine ⟨fun c => ?_, fun c => ?_⟩
    · replace h := q_ifp h c
      exact b_X12_behindBlanks_b87 R h kk
    · replace h := q_ifn h c
      refine ⟨fun c => ?_, fun c => ?_⟩
      · replace h := q_ifn h c
        exact b_X12_behindBlanks_b49 R (fun xn2_ xn3_ S_ R h => ih xn2_ xn3_ S_ R h) h kk
      · replace h := q_ifp h c
        refine ⟨_, q_p2401 R, ?_⟩
        rw [q_l2401 R]
        obtain ⟨hi, h⟩ := q_in h
        refine ⟨hi, ?_⟩
        refine ⟨fun c => ?_, fun c => ?_⟩
        · replace h := q_ifp h c
          exact b_X12_behindBlanks_b49 R (fun xn2_ xn3_ S_ R h => ih xn2_ xn3_ S_ R h) h kk
        · replace h := q_ifn h c
          obtain ⟨hi, h⟩ := q_in h
          refine ⟨hi, ?_⟩
          refine ⟨fun c => ?_, fun c => ?_⟩
          · replace h := q_ifp h c
            exact b_X12_behindBlanks_b49 R (fun xn2_ xn3_ S_ R h => ih xn2_ xn3_ S_ R h) h kk
          · replace h := q_ifn h c
            obtain ⟨hi, h⟩ := q_in h
            refine ⟨hi, ?_⟩
            refine ⟨fun c => ?_, fun c => ?_⟩
            · replace h := q_ifn h c
              exact b_X12_behindBlanks_b87 R h kk
            · replace h := q_ifp h c
              exact b_X12_behindBlanks_b49 R (fun xn2_ xn3_ S_ R h => ih xn2_ xn3_ S_ R h) h kk
def fX12_behindBlanks (x1 : Int32) (S : q_V) : Option (Int32 × q_V) :=
  fX12_behindBlanks_L4 x1 q_N x1 0 S
theorem b_X12_behindBlanks {g : q_G} {S0 : kp_S} {x1 : Int32} {S : kp_S} {post : Int32 → kp_S → Prop} {y : Int32} {v : q_V} (R : q_Gd 2 g S0 S)  (h : fX12_behindBlanks x1 (q_w g S) = some (y, v)) (kk : ∀ S, q_Gd 2 g S0 S → v = q_w g S → post y S) : wX12_behindBlanks (g 0 12 0) x1 S post := by
  unfold wX12_behindBlanks; unfold fX12_behindBlanks at h
  exact ⟨q_N, b_X12_behindBlanks_L4 kk q_N _ _ _ R h⟩
def fX12_token (x1 : Int32) (x2 : Int32) (w3 : Int64) (S : q_V) : Option q_V :=
  if (q_i S 2407) < 0 ∨ 3002 ≤ (q_i S 2407).toNatClampNeg then none else
  q_lt (q_sa S 2404 ((upd (q_a S 2404) ((q_i S 2407).toNatClampNeg) x1))) (fun T2 =>
  if (q_i T2 2407) < 0 ∨ 3002 ≤ (q_i T2 2407).toNatClampNeg then none else
  q_lt (q_sa T2 2405 ((upd (q_a T2 2405) ((q_i T2 2407).toNatClampNeg) x2))) (fun T4 =>
  if (q_i T4 2407) < 0 ∨ 3002 ≤ (q_i T4 2407).toNatClampNeg then none else
  q_lt (q_sb T4 2406 ((vp_updL (q_b T4 2406) ((q_i T4 2407).toNatClampNeg) w3))) (fun T6 =>
  q_lt (q_si T6 2407 (((q_i T6 2407) + 1))) (fun T7 =>
  some T7))))
theorem b_X12_token {g : q_G} {S0 : kp_S} {x1 : Int32} {x2 : Int32} {w3 : Int64} {S : kp_S} {post : kp_S → Prop} {v : q_V} (R : q_Gd 2 g S0 S)  (h : fX12_token x1 x2 w3 (q_w g S) = some v) (kk : ∀ S, q_Gd 2 g S0 S → v = q_w g S → post S) : wX12_token (g 0 12 0) x1 x2 w3 S post := by
  unfold wX12_token; unfold fX12_token at h
  refine ⟨_, q_p2404 R, ?_⟩
  rw [q_l2404 R]
  obtain ⟨hi, h⟩ := q_in h
  refine ⟨hi, ?_⟩
  intro T2 q
  obtain ⟨R, q⟩ := q_wA R q rfl
  replace h := q_ltw h q
  refine ⟨_, q_p2405 R, ?_⟩
  rw [q_l2405 R]
  obtain ⟨hi, h⟩ := q_in h
  refine ⟨hi, ?_⟩
  intro T4 q
  obtain ⟨R, q⟩ := q_wA R q rfl
  replace h := q_ltw h q
  refine ⟨_, q_p2406 R, ?_⟩
  rw [q_l2406 R]
  obtain ⟨hi, h⟩ := q_in h
  refine ⟨hi, ?_⟩
  intro T6 q
  obtain ⟨R, q⟩ := q_wB R q rfl
  replace h := q_ltw h q
  intro T7 q
  obtain ⟨R, q⟩ := q_wI R q rfl rfl
  replace h := q_ltw h q
  exact q_finv h kk R
def fX12_scanName_b108 (x1 : Int32) (xn2 : Int32) (wn3 : Int64) (xn6 : Int32) (xt0 : Int32) (K76 : Int32 → Int64 → Int32 → Int32 → q_V → Option (Int32 × q_V)) (Sn : q_V) : Option (Int32 × q_V) :=
  q_lt (xn6 + 1 : Int32) (fun y3001 =>
  K76 xn2 wn3 xt0 y3001 Sn)
theorem b_X12_scanName_b108 {g : q_G} {S0 : kp_S} {x1 : Int32} {xn2 : Int32} {wn3 : Int64} {xn6 : Int32} {xt0 : Int32} {K76f : Int32 → Int64 → Int32 → Int32 → q_V → Option (Int32 × q_V)} {K76 : Int32 → Int64 → Int32 → Int32 → kp_S → Prop} {Sn : kp_S} {post : Int32 → kp_S → Prop} {y : Int32} {v : q_V} (R : q_Gd 2 g S0 Sn) (hK76 : ∀ (x0 : Int32) (x1 : Int64) (x2 : Int32) (x3 : Int32) (S : kp_S), q_Gd 2 g S0 S → K76f x0 x1 x2 x3 (q_w g S) = some (y, v) → K76 x0 x1 x2 x3 S) (h : fX12_scanName_b108 x1 xn2 wn3 xn6 xt0 K76f (q_w g Sn) = some (y, v)) (kk : ∀ S, q_Gd 2 g S0 S → v = q_w g S → post y S) : wX12_scanName_b108 (g 0 12 0) x1 xn2 wn3 xn6 xt0 K76 Sn post := by
  unfold wX12_scanName_b108; unfold fX12_scanName_b108 at h
  intro y3001 q
  replace h := q_ltw h q
  exact hK76 _ _ _ _ _ R h
def fX12_scanName_b106 (x1 : Int32) (xn2 : Int32) (wn3 : Int64) (xn5 : Int32) (xn6 : Int32) (K76 : Int32 → Int64 → Int32 → Int32 → q_V → Option (Int32 × q_V)) (Sn : q_V) : Option (Int32 × q_V) :=
  fX12_scanName_b108 x1 xn2 wn3 xn6 xn5 K76 Sn
theorem b_X12_scanName_b106 {g : q_G} {S0 : kp_S} {x1 : Int32} {xn2 : Int32} {wn3 : Int64} {xn5 : Int32} {xn6 : Int32} {K76f : Int32 → Int64 → Int32 → Int32 → q_V → Option (Int32 × q_V)} {K76 : Int32 → Int64 → Int32 → Int32 → kp_S → Prop} {Sn : kp_S} {post : Int32 → kp_S → Prop} {y : Int32} {v : q_V} (R : q_Gd 2 g S0 Sn) (hK76 : ∀ (x0 : Int32) (x1 : Int64) (x2 : Int32) (x3 : Int32) (S : kp_S), q_Gd 2 g S0 S → K76f x0 x1 x2 x3 (q_w g S) = some (y, v) → K76 x0 x1 x2 x3 S) (h : fX12_scanName_b106 x1 xn2 wn3 xn5 xn6 K76f (q_w g Sn) = some (y, v)) (kk : ∀ S, q_Gd 2 g S0 S → v = q_w g S → post y S) : wX12_scanName_b106 (g 0 12 0) x1 xn2 wn3 xn5 xn6 K76 Sn post := by
  unfold wX12_scanName_b106; unfold fX12_scanName_b106 at h
  exact b_X12_scanName_b108 R hK76 h kk
def fX12_scanName_L76 (x1 : Int32) : Nat → Int32 → Int64 → Int32 → Int32 → q_V → Option (Int32 × q_V)
  | 0, _, _, _, _, _ => none
  | n + 1, xn2, wn3, xn5, xn6, Sn =>
  if 49 < xn6 then
  q_bv (fX12_token xn5 x1 wn3 Sn) (fun T5001 =>
  some (xn2, T5001))
  else
  if xn5 = 2 then
  if (xn6) < 0 ∨ 50 ≤ (xn6).toNatClampNeg then none else
  if (lg_cmp (q_b Sn 2403 xn6.toNatClampNeg) wn3) = 0 then
  fX12_scanName_b108 x1 xn2 wn3 xn6 xn6 (fun xn2_ wn3_ xn5_ xn6_ S_ => fX12_scanName_L76 x1 n xn2_ wn3_ xn5_ xn6_ S_) Sn
  else
  fX12_scanName_b106 x1 xn2 wn3 xn5 xn6 (fun xn2_ wn3_ xn5_ xn6_ S_ => fX12_scanName_L76 x1 n xn2_ wn3_ xn5_ xn6_ S_) Sn
  else
  fX12_scanName_b106 x1 xn2 wn3 xn5 xn6 (fun xn2_ wn3_ xn5_ xn6_ S_ => fX12_scanName_L76 x1 n xn2_ wn3_ xn5_ xn6_ S_) Sn
theorem b_X12_scanName_L76 {g : q_G} {S0 : kp_S} {x1 : Int32} {post : Int32 → kp_S → Prop} {y : Int32} {v : q_V}  (kk : ∀ S, q_Gd 2 g S0 S → v = q_w g S → post y S) : ∀ (n : Nat) (xn2 : Int32) (wn3 : Int64) (xn5 : Int32) (xn6 : Int32) (Sn : kp_S), q_Gd 2 g S0 Sn → fX12_scanName_L76 x1 n xn2 wn3 xn5 xn6 (q_w g Sn) = some (y, v) → wX12_scanName_L76 (g 0 12 0) x1 post n xn2 wn3 xn5 xn6 Sn := by
  intro n
  induction n with
  | zero => intro xn2 wn3 xn5 xn6 Sn _ h; cases h
  | succ n ih =>
    intro xn2 wn3 xn5 xn6 Sn R h
    unfold wX12_scanName_L76; unfold fX12_scanName_L76 at h
    refine ⟨fun c => ?_, fun c => ?_⟩
    · replace h := q_ifp h c
      obtain ⟨v1, h1, h⟩ := q_bvi h
      refine b_X12_token R h1 (fun T5001 R q => ?_)
      subst q
      exact q_fin h kk R
    · replace h := q_ifn h c
      refine ⟨fun c => ?_, fun c => ?_⟩
      · replace h := q_ifn h c
        exact b_X12_scanName_b106 R (fun xn2_ wn3_ xn5_ xn6_ S_ R h => ih xn2_ wn3_ xn5_ xn6_ S_ R h) h kk
      · replace h := q_ifp h c
        refine ⟨_, q_p2403 R, ?_⟩
        rw [q_l2403 R]
        obtain ⟨hi, h⟩ := q_in h
        refine ⟨hi, ?_⟩
        refine ⟨fun c => ?_, fun c => ?_⟩
        · replace h := q_ifn h c
          exact b_X12_scanName_b106 R (fun xn2_ wn3_ xn5_ xn6_ S_ R h => ih xn2_ wn3_ xn5_ xn6_ S_ R h) h kk
        · replace h := q_ifp h c
          exact b_X12_scanName_b108 R (fun xn2_ wn3_ xn5_ xn6_ S_ R h => ih xn2_ wn3_ xn5_ xn6_ S_ R h) h kk
def fX12_scanName_b70 (x1 : Int32) (xn2 : Int32) (wn3 : Int64) (xt0 : Int32) (Sn : q_V) : Option (Int32 × q_V) :=
  fX12_scanName_L76 x1 q_N xn2 wn3 xt0 10 Sn
theorem b_X12_scanName_b70 {g : q_G} {S0 : kp_S} {x1 : Int32} {xn2 : Int32} {wn3 : Int64} {xt0 : Int32} {Sn : kp_S} {post : Int32 → kp_S → Prop} {y : Int32} {v : q_V} (R : q_Gd 2 g S0 Sn)  (h : fX12_scanName_b70 x1 xn2 wn3 xt0 (q_w g Sn) = some (y, v)) (kk : ∀ S, q_Gd 2 g S0 S → v = q_w g S → post y S) : wX12_scanName_b70 (g 0 12 0) x1 xn2 wn3 xt0 Sn post := by
  unfold wX12_scanName_b70; unfold fX12_scanName_b70 at h
  exact ⟨q_N, b_X12_scanName_L76 kk q_N _ _ _ _ _ R h⟩
def fX12_scanName_b50 (x1 : Int32) (xn2 : Int32) (wt0 : Int64) (K4 : Int32 → Int64 → q_V → Option (Int32 × q_V)) (Sn : q_V) : Option (Int32 × q_V) :=
  q_lt (xn2 + 1 : Int32) (fun y1001 =>
  K4 y1001 wt0 Sn)
theorem b_X12_scanName_b50 {g : q_G} {S0 : kp_S} {x1 : Int32} {xn2 : Int32} {wt0 : Int64} {K4f : Int32 → Int64 → q_V → Option (Int32 × q_V)} {K4 : Int32 → Int64 → kp_S → Prop} {Sn : kp_S} {post : Int32 → kp_S → Prop} {y : Int32} {v : q_V} (R : q_Gd 2 g S0 Sn) (hK4 : ∀ (x0 : Int32) (x1 : Int64) (S : kp_S), q_Gd 2 g S0 S → K4f x0 x1 (q_w g S) = some (y, v) → K4 x0 x1 S) (h : fX12_scanName_b50 x1 xn2 wt0 K4f (q_w g Sn) = some (y, v)) (kk : ∀ S, q_Gd 2 g S0 S → v = q_w g S → post y S) : wX12_scanName_b50 (g 0 12 0) x1 xn2 wt0 K4 Sn post := by
  unfold wX12_scanName_b50; unfold fX12_scanName_b50 at h
  intro y1001 q
  replace h := q_ltw h q
  exact hK4 _ _ _ R h
def fX12_scanName_b26 (x1 : Int32) (xn2 : Int32) (wn3 : Int64) (K4 : Int32 → Int64 → q_V → Option (Int32 × q_V)) (Sn : q_V) : Option (Int32 × q_V) :=
  if 8 ≤ (xn2 - x1) then
  fX12_scanName_b50 x1 xn2 wn3 K4 Sn
  else
  if (xn2) < 0 ∨ 3000 ≤ (xn2).toNatClampNeg then none else
  fX12_scanName_b50 x1 xn2 ((((wn3 : Int64) <<< ((8 : Int32).toInt64 &&& 63)) ||| ((q_a Sn 2401 xn2.toNatClampNeg : Int32).toInt64))) K4 Sn
theorem b_X12_scanName_b26 {g : q_G} {S0 : kp_S} {x1 : Int32} {xn2 : Int32} {wn3 : Int64} {K4f : Int32 → Int64 → q_V → Option (Int32 × q_V)} {K4 : Int32 → Int64 → kp_S → Prop} {Sn : kp_S} {post : Int32 → kp_S → Prop} {y : Int32} {v : q_V} (R : q_Gd 2 g S0 Sn) (hK4 : ∀ (x0 : Int32) (x1 : Int64) (S : kp_S), q_Gd 2 g S0 S → K4f x0 x1 (q_w g S) = some (y, v) → K4 x0 x1 S) (h : fX12_scanName_b26 x1 xn2 wn3 K4f (q_w g Sn) = some (y, v)) (kk : ∀ S, q_Gd 2 g S0 S → v = q_w g S → post y S) : wX12_scanName_b26 (g 0 12 0) x1 xn2 wn3 K4 Sn post := by
  unfold wX12_scanName_b26; unfold fX12_scanName_b26 at h
  refine ⟨fun c => ?_, fun c => ?_⟩
  · replace h := q_ifp h c
    exact b_X12_scanName_b50 R hK4 h kk
  · replace h := q_ifn h c
    refine ⟨_, q_p2401 R, ?_⟩
    rw [q_l2401 R]
    obtain ⟨hi, h⟩ := q_in h
    refine ⟨hi, ?_⟩
    exact b_X12_scanName_b50 R hK4 h kk
def fX12_scanName_L4 (x1 : Int32) : Nat → Int32 → Int64 → q_V → Option (Int32 × q_V)
  | 0, _, _, _ => none
  | n + 1, xn2, wn3, Sn =>
  q_bd (fX12_at xn2 Sn) (fun y7002 T7001 =>
  q_bd (fX12_isLetter y7002 T7001) (fun y7004 T7003 =>
  if y7004 = 0 then
  q_bd (fX12_at xn2 T7003) (fun y7006 T7005 =>
  q_bd (fX12_isDigit y7006 T7005) (fun y7008 T7007 =>
  if y7008 = 0 then
  if (xn2 - x1) ≤ 8 then
  fX12_scanName_b70 x1 xn2 wn3 2 T7007
  else
  fX12_scanName_b70 x1 xn2 wn3 1 T7007
  else
  fX12_scanName_b26 x1 xn2 wn3 (fun xn2_ wn3_ S_ => fX12_scanName_L4 x1 n xn2_ wn3_ S_) T7007))
  else
  fX12_scanName_b26 x1 xn2 wn3 (fun xn2_ wn3_ S_ => fX12_scanName_L4 x1 n xn2_ wn3_ S_) T7003))
theorem b_X12_scanName_L4 {g : q_G} {S0 : kp_S} {x1 : Int32} {post : Int32 → kp_S → Prop} {y : Int32} {v : q_V}  (kk : ∀ S, q_Gd 2 g S0 S → v = q_w g S → post y S) : ∀ (n : Nat) (xn2 : Int32) (wn3 : Int64) (Sn : kp_S), q_Gd 2 g S0 Sn → fX12_scanName_L4 x1 n xn2 wn3 (q_w g Sn) = some (y, v) → wX12_scanName_L4 (g 0 12 0) x1 post n xn2 wn3 Sn := by
  intro n
  induction n with
  | zero => intro xn2 wn3 Sn _ h; cases h
  | succ n ih =>
    intro xn2 wn3 Sn R h
    unfold wX12_scanName_L4; unfold fX12_scanName_L4 at h
    obtain ⟨y7002, v1, h1, h⟩ := q_bdi h
    refine b_X12_at R h1 (fun T7001 R q => ?_)
    subst q
    obtain ⟨y7004, v1, h1, h⟩ := q_bdi h
    refine b_X12_isLetter R h1 (fun T7003 R q => ?_)
    subst q
    refine ⟨fun c => ?_, fun c => ?_⟩
    · replace h := q_ifn h c
      exact b_X12_scanName_b26 R (fun xn2_ wn3_ S_ R h => ih xn2_ wn3_ S_ R h) h kk
    · replace h := q_ifp h c
      obtain ⟨y7006, v1, h1, h⟩ := q_bdi h
      refine b_X12_at R h1 (fun T7005 R q => ?_)
      subst q
      obtain ⟨y7008, v1, h1, h⟩ := q_bdi h
      refine b_X12_isDigit R h1 (fun T7007 R q => ?_)
      subst q
      refine ⟨fun c => ?_, fun c => ?_⟩
      · replace h := q_ifp h c
        refine ⟨fun c => ?_, fun c => ?_⟩
        · replace h := q_ifp h c
          exact b_X12_scanName_b70 R h kk
        · replace h := q_ifn h c
          exact b_X12_scanName_b70 R h kk
      · replace h := q_ifn h c
        exact b_X12_scanName_b26 R (fun xn2_ wn3_ S_ R h => ih xn2_ wn3_ S_ R h) h kk
def fX12_scanName (x1 : Int32) (S : q_V) : Option (Int32 × q_V) :=
  fX12_scanName_L4 x1 q_N x1 0 S
theorem b_X12_scanName {g : q_G} {S0 : kp_S} {x1 : Int32} {S : kp_S} {post : Int32 → kp_S → Prop} {y : Int32} {v : q_V} (R : q_Gd 2 g S0 S)  (h : fX12_scanName x1 (q_w g S) = some (y, v)) (kk : ∀ S, q_Gd 2 g S0 S → v = q_w g S → post y S) : wX12_scanName (g 0 12 0) x1 S post := by
  unfold wX12_scanName; unfold fX12_scanName at h
  exact ⟨q_N, b_X12_scanName_L4 kk q_N _ _ _ R h⟩
def fX12_scanNumber_b65 (x1 : Int32) (xn2 : Int32) (wn3 : Int64) (xt0 : Int32) (Sn : q_V) : Option (Int32 × q_V) :=
  q_bv (fX12_token xt0 x1 wn3 Sn) (fun T1001 =>
  some (xn2, T1001))
theorem b_X12_scanNumber_b65 {g : q_G} {S0 : kp_S} {x1 : Int32} {xn2 : Int32} {wn3 : Int64} {xt0 : Int32} {Sn : kp_S} {post : Int32 → kp_S → Prop} {y : Int32} {v : q_V} (R : q_Gd 2 g S0 Sn)  (h : fX12_scanNumber_b65 x1 xn2 wn3 xt0 (q_w g Sn) = some (y, v)) (kk : ∀ S, q_Gd 2 g S0 S → v = q_w g S → post y S) : wX12_scanNumber_b65 (g 0 12 0) x1 xn2 wn3 xt0 (g 0 12 0) Sn post := by
  unfold wX12_scanNumber_b65; unfold fX12_scanNumber_b65 at h
  obtain ⟨v1, h1, h⟩ := q_bvi h
  refine b_X12_token R h1 (fun T1001 R q => ?_)
  subst q
  exact q_fin h kk R
def fX12_scanNumber_b44 (x1 : Int32) (xn2 : Int32) (wt0 : Int64) (K4 : Int32 → Int64 → q_V → Option (Int32 × q_V)) (Sn : q_V) : Option (Int32 × q_V) :=
  q_lt (xn2 + 1 : Int32) (fun y2001 =>
  K4 y2001 wt0 Sn)
theorem b_X12_scanNumber_b44 {g : q_G} {S0 : kp_S} {x1 : Int32} {xn2 : Int32} {wt0 : Int64} {K4f : Int32 → Int64 → q_V → Option (Int32 × q_V)} {K4 : Int32 → Int64 → kp_S → Prop} {Sn : kp_S} {post : Int32 → kp_S → Prop} {y : Int32} {v : q_V} (R : q_Gd 2 g S0 Sn) (hK4 : ∀ (x0 : Int32) (x1 : Int64) (S : kp_S), q_Gd 2 g S0 S → K4f x0 x1 (q_w g S) = some (y, v) → K4 x0 x1 S) (h : fX12_scanNumber_b44 x1 xn2 wt0 K4f (q_w g Sn) = some (y, v)) (kk : ∀ S, q_Gd 2 g S0 S → v = q_w g S → post y S) : wX12_scanNumber_b44 (g 0 12 0) x1 xn2 wt0 K4 Sn post := by
  unfold wX12_scanNumber_b44; unfold fX12_scanNumber_b44 at h
  intro y2001 q
  replace h := q_ltw h q
  exact hK4 _ _ _ R h
def fX12_scanNumber_L4 (x1 : Int32) : Nat → Int32 → Int64 → q_V → Option (Int32 × q_V)
  | 0, _, _, _ => none
  | n + 1, xn2, wn3, Sn =>
  q_bd (fX12_at xn2 Sn) (fun y3002 T3001 =>
  q_bd (fX12_isDigit y3002 T3001) (fun y3004 T3003 =>
  if y3004 = 0 then
  if (xn2 - x1) ≤ 9 then
  fX12_scanNumber_b65 x1 xn2 wn3 3 T3003
  else
  fX12_scanNumber_b65 x1 xn2 wn3 1 T3003
  else
  if 9 ≤ (xn2 - x1) then
  fX12_scanNumber_b44 x1 xn2 wn3 (fun xn2_ wn3_ S_ => fX12_scanNumber_L4 x1 n xn2_ wn3_ S_) T3003
  else
  if (xn2) < 0 ∨ 3000 ≤ (xn2).toNatClampNeg then none else
  fX12_scanNumber_b44 x1 xn2 ((((10 * wn3) + ((q_a T3003 2401 xn2.toNatClampNeg : Int32).toInt64)) - 48)) (fun xn2_ wn3_ S_ => fX12_scanNumber_L4 x1 n xn2_ wn3_ S_) T3003))
theorem b_X12_scanNumber_L4 {g : q_G} {S0 : kp_S} {x1 : Int32} {post : Int32 → kp_S → Prop} {y : Int32} {v : q_V}  (kk : ∀ S, q_Gd 2 g S0 S → v = q_w g S → post y S) : ∀ (n : Nat) (xn2 : Int32) (wn3 : Int64) (Sn : kp_S), q_Gd 2 g S0 Sn → fX12_scanNumber_L4 x1 n xn2 wn3 (q_w g Sn) = some (y, v) → wX12_scanNumber_L4 (g 0 12 0) x1 post n xn2 wn3 Sn := by
  intro n
  induction n with
  | zero => intro xn2 wn3 Sn _ h; cases h
  | succ n ih =>
    intro xn2 wn3 Sn R h
    unfold wX12_scanNumber_L4; unfold fX12_scanNumber_L4 at h
    obtain ⟨y3002, v1, h1, h⟩ := q_bdi h
    refine b_X12_at R h1 (fun T3001 R q => ?_)
    subst q
    obtain ⟨y3004, v1, h1, h⟩ := q_bdi h
    refine b_X12_isDigit R h1 (fun T3003 R q => ?_)
    subst q
    refine ⟨fun c => ?_, fun c => ?_⟩
    · replace h := q_ifp h c
      refine ⟨fun c => ?_, fun c => ?_⟩
      · replace h := q_ifp h c
        exact b_X12_scanNumber_b65 R h kk
      · replace h := q_ifn h c
        exact b_X12_scanNumber_b65 R h kk
    · replace h := q_ifn h c
      refine ⟨fun c => ?_, fun c => ?_⟩
      · replace h := q_ifp h c
        exact b_X12_scanNumber_b44 R (fun xn2_ wn3_ S_ R h => ih xn2_ wn3_ S_ R h) h kk
      · replace h := q_ifn h c
        refine ⟨_, q_p2401 R, ?_⟩
        rw [q_l2401 R]
        obtain ⟨hi, h⟩ := q_in h
        refine ⟨hi, ?_⟩
        exact b_X12_scanNumber_b44 R (fun xn2_ wn3_ S_ R h => ih xn2_ wn3_ S_ R h) h kk
def fX12_scanNumber (x1 : Int32) (S : q_V) : Option (Int32 × q_V) :=
  fX12_scanNumber_L4 x1 q_N x1 0 S
theorem b_X12_scanNumber {g : q_G} {S0 : kp_S} {x1 : Int32} {S : kp_S} {post : Int32 → kp_S → Prop} {y : Int32} {v : q_V} (R : q_Gd 2 g S0 S)  (h : fX12_scanNumber x1 (q_w g S) = some (y, v)) (kk : ∀ S, q_Gd 2 g S0 S → v = q_w g S → post y S) : wX12_scanNumber (g 0 12 0) x1 S post := by
  unfold wX12_scanNumber; unfold fX12_scanNumber at h
  exact ⟨q_N, b_X12_scanNumber_L4 kk q_N _ _ _ R h⟩
def fX12_scanSign_b243 (x1 : Int32) (xt0 : Int32) (xt1 : Int32) (Sn : q_V) : Option (Int32 × q_V) :=
  some ((xt1 + xt0), Sn)
theorem b_X12_scanSign_b243 {g : q_G} {S0 : kp_S} {x1 : Int32} {xt0 : Int32} {xt1 : Int32} {Sn : kp_S} {post : Int32 → kp_S → Prop} {y : Int32} {v : q_V} (R : q_Gd 2 g S0 Sn)  (h : fX12_scanSign_b243 x1 xt0 xt1 (q_w g Sn) = some (y, v)) (kk : ∀ S, q_Gd 2 g S0 S → v = q_w g S → post y S) : wX12_scanSign_b243 (g 0 12 0) x1 xt0 xt1 Sn post := by
  unfold wX12_scanSign_b243; unfold fX12_scanSign_b243 at h
  exact q_fin h kk R
def fX12_scanSign_b225 (x1 : Int32) (xn3 : Int32) (xn4 : Int32) (Sn : q_V) : Option (Int32 × q_V) :=
  q_bv (fX12_token xn4 x1 0 Sn) (fun T2001 =>
  if xn3 = 0 then
  fX12_scanSign_b243 x1 1 x1 T2001
  else
  fX12_scanSign_b243 x1 2 x1 T2001)
theorem b_X12_scanSign_b225 {g : q_G} {S0 : kp_S} {x1 : Int32} {xn3 : Int32} {xn4 : Int32} {Sn : kp_S} {post : Int32 → kp_S → Prop} {y : Int32} {v : q_V} (R : q_Gd 2 g S0 Sn)  (h : fX12_scanSign_b225 x1 xn3 xn4 (q_w g Sn) = some (y, v)) (kk : ∀ S, q_Gd 2 g S0 S → v = q_w g S → post y S) : wX12_scanSign_b225 (g 0 12 0) x1 xn3 xn4 Sn post := by
  unfold wX12_scanSign_b225; unfold fX12_scanSign_b225 at h
  obtain ⟨v1, h1, h⟩ := q_bvi h
  refine b_X12_token R h1 (fun T2001 R q => ?_)
  subst q
  refine ⟨fun c => ?_, fun c => ?_⟩
  · replace h := q_ifp h c
    exact b_X12_scanSign_b243 R h kk
  · replace h := q_ifn h c
    exact b_X12_scanSign_b243 R h kk
def fX12_scanSign_b220 (x1 : Int32) (xn3 : Int32) (xt0 : Int32) (Sn : q_V) : Option (Int32 × q_V) :=
  fX12_scanSign_b225 x1 xn3 xt0 Sn
theorem b_X12_scanSign_b220 {g : q_G} {S0 : kp_S} {x1 : Int32} {xn3 : Int32} {xt0 : Int32} {Sn : kp_S} {post : Int32 → kp_S → Prop} {y : Int32} {v : q_V} (R : q_Gd 2 g S0 Sn)  (h : fX12_scanSign_b220 x1 xn3 xt0 (q_w g Sn) = some (y, v)) (kk : ∀ S, q_Gd 2 g S0 S → v = q_w g S → post y S) : wX12_scanSign_b220 (g 0 12 0) x1 xn3 xt0 Sn post := by
  unfold wX12_scanSign_b220; unfold fX12_scanSign_b220 at h
  exact b_X12_scanSign_b225 R h kk
def fX12_scanSign_b160 (x1 : Int32) (xn2 : Int32) (Sn : q_V) : Option (Int32 × q_V) :=
  q_lt ((100 + xn2) : Int32) (fun y4001 =>
  fX12_scanSign_b225 x1 0 y4001 Sn)
theorem b_X12_scanSign_b160 {g : q_G} {S0 : kp_S} {x1 : Int32} {xn2 : Int32} {Sn : kp_S} {post : Int32 → kp_S → Prop} {y : Int32} {v : q_V} (R : q_Gd 2 g S0 Sn)  (h : fX12_scanSign_b160 x1 xn2 (q_w g Sn) = some (y, v)) (kk : ∀ S, q_Gd 2 g S0 S → v = q_w g S → post y S) : wX12_scanSign_b160 (g 0 12 0) x1 xn2 Sn post := by
  unfold wX12_scanSign_b160; unfold fX12_scanSign_b160 at h
  intro y4001 q
  replace h := q_ltw h q
  exact b_X12_scanSign_b225 R h kk
def fX12_scanSign_b204 (x1 : Int32) (xn3 : Int32) (xt0 : Int32) (Sn : q_V) : Option (Int32 × q_V) :=
  fX12_scanSign_b225 x1 xn3 xt0 Sn
theorem b_X12_scanSign_b204 {g : q_G} {S0 : kp_S} {x1 : Int32} {xn3 : Int32} {xt0 : Int32} {Sn : kp_S} {post : Int32 → kp_S → Prop} {y : Int32} {v : q_V} (R : q_Gd 2 g S0 Sn)  (h : fX12_scanSign_b204 x1 xn3 xt0 (q_w g Sn) = some (y, v)) (kk : ∀ S, q_Gd 2 g S0 S → v = q_w g S → post y S) : wX12_scanSign_b204 (g 0 12 0) x1 xn3 xt0 Sn post := by
  unfold wX12_scanSign_b204; unfold fX12_scanSign_b204 at h
  exact b_X12_scanSign_b225 R h kk
def fX12_scanSign_b185 (x1 : Int32) (xn3 : Int32) (xt0 : Int32) (Sn : q_V) : Option (Int32 × q_V) :=
  fX12_scanSign_b225 x1 xn3 xt0 Sn
theorem b_X12_scanSign_b185 {g : q_G} {S0 : kp_S} {x1 : Int32} {xn3 : Int32} {xt0 : Int32} {Sn : kp_S} {post : Int32 → kp_S → Prop} {y : Int32} {v : q_V} (R : q_Gd 2 g S0 Sn)  (h : fX12_scanSign_b185 x1 xn3 xt0 (q_w g Sn) = some (y, v)) (kk : ∀ S, q_Gd 2 g S0 S → v = q_w g S → post y S) : wX12_scanSign_b185 (g 0 12 0) x1 xn3 xt0 Sn post := by
  unfold wX12_scanSign_b185; unfold fX12_scanSign_b185 at h
  exact b_X12_scanSign_b225 R h kk
def fX12_scanSign_b24 (x1 : Int32) (xn2 : Int32) (xt0 : Int32) (Sn : q_V) : Option (Int32 × q_V) :=
  if xn2 = 33 then
  if xt0 = 0 then
  fX12_scanSign_b220 x1 xt0 1 Sn
  else
  fX12_scanSign_b220 x1 xt0 302 Sn
  else
  if xn2 = 37 then
  fX12_scanSign_b160 x1 xn2 Sn
  else
  if xn2 = 40 then
  fX12_scanSign_b160 x1 xn2 Sn
  else
  if xn2 = 41 then
  fX12_scanSign_b160 x1 xn2 Sn
  else
  if xn2 = 42 then
  fX12_scanSign_b160 x1 xn2 Sn
  else
  if xn2 = 43 then
  fX12_scanSign_b160 x1 xn2 Sn
  else
  if xn2 = 44 then
  fX12_scanSign_b160 x1 xn2 Sn
  else
  if xn2 = 45 then
  fX12_scanSign_b160 x1 xn2 Sn
  else
  if xn2 = 47 then
  fX12_scanSign_b160 x1 xn2 Sn
  else
  if xn2 = 58 then
  fX12_scanSign_b160 x1 xn2 Sn
  else
  if xn2 = 59 then
  fX12_scanSign_b160 x1 xn2 Sn
  else
  if xn2 = 60 then
  if xt0 = 0 then
  fX12_scanSign_b204 x1 xt0 ((100 + xn2)) Sn
  else
  fX12_scanSign_b204 x1 xt0 303 Sn
  else
  if xn2 = 61 then
  if xt0 = 0 then
  fX12_scanSign_b185 x1 xt0 ((100 + xn2)) Sn
  else
  fX12_scanSign_b185 x1 xt0 301 Sn
  else
  if xn2 = 123 then
  fX12_scanSign_b160 x1 xn2 Sn
  else
  if xn2 = 125 then
  fX12_scanSign_b160 x1 xn2 Sn
  else
  fX12_scanSign_b225 x1 xt0 1 Sn
theorem b_X12_scanSign_b24 {g : q_G} {S0 : kp_S} {x1 : Int32} {xn2 : Int32} {xt0 : Int32} {Sn : kp_S} {post : Int32 → kp_S → Prop} {y : Int32} {v : q_V} (R : q_Gd 2 g S0 Sn)  (h : fX12_scanSign_b24 x1 xn2 xt0 (q_w g Sn) = some (y, v)) (kk : ∀ S, q_Gd 2 g S0 S → v = q_w g S → post y S) : wX12_scanSign_b24 (g 0 12 0) x1 xn2 xt0 Sn post := by
  unfold wX12_scanSign_b24; unfold fX12_scanSign_b24 at h
  refine ⟨fun c => ?_, fun c => ?_⟩
  · replace h := q_ifp h c
    refine ⟨fun c => ?_, fun c => ?_⟩
    · replace h := q_ifp h c
      exact b_X12_scanSign_b220 R h kk
    · replace h := q_ifn h c
      exact b_X12_scanSign_b220 R h kk
  · replace h := q_ifn h c
    refine ⟨fun c => ?_, fun c => ?_⟩
    · replace h := q_ifp h c
      exact b_X12_scanSign_b160 R h kk
    · replace h := q_ifn h c
      refine ⟨fun c => ?_, fun c => ?_⟩
      · replace h := q_ifp h c
        exact b_X12_scanSign_b160 R h kk
      · replace h := q_ifn h c
        refine ⟨fun c => ?_, fun c => ?_⟩
        · replace h := q_ifp h c
          exact b_X12_scanSign_b160 R h kk
        · replace h := q_ifn h c
          refine ⟨fun c => ?_, fun c => ?_⟩
          · replace h := q_ifp h c
            exact b_X12_scanSign_b160 R h kk
          · replace h := q_ifn h c
            refine ⟨fun c => ?_, fun c => ?_⟩
            · replace h := q_ifp h c
              exact b_X12_scanSign_b160 R h kk
            · replace h := q_ifn h c
              refine ⟨fun c => ?_, fun c => ?_⟩
              · replace h := q_ifp h c
                exact b_X12_scanSign_b160 R h kk
              · replace h := q_ifn h c
                refine ⟨fun c => ?_, fun c => ?_⟩
                · replace h := q_ifp h c
                  exact b_X12_scanSign_b160 R h kk
                · replace h := q_ifn h c
                  refine ⟨fun c => ?_, fun c => ?_⟩
                  · replace h := q_ifp h c
                    exact b_X12_scanSign_b160 R h kk
                  · replace h := q_ifn h c
                    refine ⟨fun c => ?_, fun c => ?_⟩
                    · replace h := q_ifp h c
                      exact b_X12_scanSign_b160 R h kk
                    · replace h := q_ifn h c
                      refine ⟨fun c => ?_, fun c => ?_⟩
                      · replace h := q_ifp h c
                        exact b_X12_scanSign_b160 R h kk
                      · replace h := q_ifn h c
                        refine ⟨fun c => ?_, fun c => ?_⟩
                        · replace h := q_ifp h c
                          refine ⟨fun c => ?_, fun c => ?_⟩
                          · replace h := q_ifp h c
                            exact b_X12_scanSign_b204 R h kk
                          · replace h := q_ifn h c
                            exact b_X12_scanSign_b204 R h kk
                        · replace h := q_ifn h c
                          refine ⟨fun c => ?_, fun c => ?_⟩
                          · replace h := q_ifp h c
                            refine ⟨fun c => ?_, fun c => ?_⟩
                            · replace h := q_ifp h c
                              exact b_X12_scanSign_b185 R h kk
                            · replace h := q_ifn h c
                              exact b_X12_scanSign_b185 R h kk
                          · replace h := q_ifn h c
                            refine ⟨fun c => ?_, fun c => ?_⟩
                            · replace h := q_ifp h c
                              exact b_X12_scanSign_b160 R h kk
                            · replace h := q_ifn h c
                              refine ⟨fun c => ?_, fun c => ?_⟩
                              · replace h := q_ifp h c
                                exact b_X12_scanSign_b160 R h kk
                              · replace h := q_ifn h c
                                exact b_X12_scanSign_b225 R h kk
def fX12_scanSign (x1 : Int32) (S : q_V) : Option (Int32 × q_V) :=
  if (x1) < 0 ∨ 3000 ≤ (x1).toNatClampNeg then none else
  q_lt ((q_a S 2401 x1.toNatClampNeg) : Int32) (fun y2 =>
  q_bd (fX12_at ((x1 + 1)) S) (fun y4 T3 =>
  if y4 = 61 then
  fX12_scanSign_b24 x1 y2 1 T3
  else
  fX12_scanSign_b24 x1 y2 0 T3))
theorem b_X12_scanSign {g : q_G} {S0 : kp_S} {x1 : Int32} {S : kp_S} {post : Int32 → kp_S → Prop} {y : Int32} {v : q_V} (R : q_Gd 2 g S0 S)  (h : fX12_scanSign x1 (q_w g S) = some (y, v)) (kk : ∀ S, q_Gd 2 g S0 S → v = q_w g S → post y S) : wX12_scanSign (g 0 12 0) x1 S post := by
  unfold wX12_scanSign; unfold fX12_scanSign at h
  refine ⟨_, q_p2401 R, ?_⟩
  rw [q_l2401 R]
  obtain ⟨hi, h⟩ := q_in h
  refine ⟨hi, ?_⟩
  intro y2 q
  replace h := q_ltw h q
  obtain ⟨y4, v1, h1, h⟩ := q_bdi h
  refine b_X12_at R h1 (fun T3 R q => ?_)
  subst q
  refine ⟨fun c => ?_, fun c => ?_⟩
  · replace h := q_ifn h c
    exact b_X12_scanSign_b24 R h kk
  · replace h := q_ifp h c
    exact b_X12_scanSign_b24 R h kk
def fX12_scan_b108 (Sn : q_V) : Option q_V :=
  q_bv (fX12_token 0 ((q_i Sn 2402)) 0 Sn) (fun T1001 =>
  some T1001)
theorem b_X12_scan_b108 {g : q_G} {S0 : kp_S} {Sn : kp_S} {post : kp_S → Prop} {v : q_V} (R : q_Gd 2 g S0 Sn)  (h : fX12_scan_b108 (q_w g Sn) = some v) (kk : ∀ S, q_Gd 2 g S0 S → v = q_w g S → post S) : wX12_scan_b108 (g 0 12 0) Sn post := by
  unfold wX12_scan_b108; unfold fX12_scan_b108 at h
  obtain ⟨v1, h1, h⟩ := q_bvi h
  refine b_X12_token R h1 (fun T1001 R q => ?_)
  subst q
  exact q_finv h kk R
def fX12_scan_b101 (xt0 : Int32) (K11 : Int32 → q_V → Option q_V) (Sn : q_V) : Option q_V :=
  q_bd (fX12_behindBlanks xt0 Sn) (fun y2002 T2001 =>
  K11 y2002 T2001)
theorem b_X12_scan_b101 {g : q_G} {S0 : kp_S} {xt0 : Int32} {K11f : Int32 → q_V → Option q_V} {K11 : Int32 → kp_S → Prop} {Sn : kp_S} {post : kp_S → Prop} {v : q_V} (R : q_Gd 2 g S0 Sn) (hK11 : ∀ (x0 : Int32) (S : kp_S), q_Gd 2 g S0 S → K11f x0 (q_w g S) = some v → K11 x0 S) (h : fX12_scan_b101 xt0 K11f (q_w g Sn) = some v) (kk : ∀ S, q_Gd 2 g S0 S → v = q_w g S → post S) : wX12_scan_b101 (g 0 12 0) xt0 (g 0 12 0) K11 Sn post := by
  unfold wX12_scan_b101; unfold fX12_scan_b101 at h
  obtain ⟨y2002, v1, h1, h⟩ := q_bdi h
  refine b_X12_behindBlanks R h1 (fun T2001 R q => ?_)
  subst q
  exact hK11 _ _ R h
def fX12_scan_b88 (xn1 : Int32) (xn3 : Int32) (K11 : Int32 → q_V → Option q_V) (Sn : q_V) : Option q_V :=
  if xn1 ≤ xn3 then
  fX12_scan_b101 ((xn3 + 1)) K11 Sn
  else
  fX12_scan_b101 xn1 K11 Sn
theorem b_X12_scan_b88 {g : q_G} {S0 : kp_S} {xn1 : Int32} {xn3 : Int32} {K11f : Int32 → q_V → Option q_V} {K11 : Int32 → kp_S → Prop} {Sn : kp_S} {post : kp_S → Prop} {v : q_V} (R : q_Gd 2 g S0 Sn) (hK11 : ∀ (x0 : Int32) (S : kp_S), q_Gd 2 g S0 S → K11f x0 (q_w g S) = some v → K11 x0 S) (h : fX12_scan_b88 xn1 xn3 K11f (q_w g Sn) = some v) (kk : ∀ S, q_Gd 2 g S0 S → v = q_w g S → post S) : wX12_scan_b88 (g 0 12 0) xn1 xn3 K11 Sn post := by
  unfold wX12_scan_b88; unfold fX12_scan_b88 at h
  refine ⟨fun c => ?_, fun c => ?_⟩
  · replace h := q_ifp h c
    exact b_X12_scan_b101 R hK11 h kk
  · replace h := q_ifn h c
    exact b_X12_scan_b101 R hK11 h kk
def fX12_scan_b41 (xn1 : Int32) (K11 : Int32 → q_V → Option q_V) (Sn : q_V) : Option q_V :=
  if (xn1) < 0 ∨ 3000 ≤ (xn1).toNatClampNeg then none else
  q_lt ((q_a Sn 2401 xn1.toNatClampNeg) : Int32) (fun y4002 =>
  q_bd (fX12_isLetter y4002 Sn) (fun y4004 T4003 =>
  if y4004 = 0 then
  q_bd (fX12_isDigit y4002 T4003) (fun y4006 T4005 =>
  if y4006 = 0 then
  q_bd (fX12_scanSign xn1 T4005) (fun y4008 T4007 =>
  fX12_scan_b88 y4008 xn1 K11 T4007)
  else
  q_bd (fX12_scanNumber xn1 T4005) (fun y4010 T4009 =>
  fX12_scan_b88 y4010 xn1 K11 T4009))
  else
  q_bd (fX12_scanName xn1 T4003) (fun y4013 T4012 =>
  fX12_scan_b88 y4013 xn1 K11 T4012)))
theorem b_X12_scan_b41 {g : q_G} {S0 : kp_S} {xn1 : Int32} {K11f : Int32 → q_V → Option q_V} {K11 : Int32 → kp_S → Prop} {Sn : kp_S} {post : kp_S → Prop} {v : q_V} (R : q_Gd 2 g S0 Sn) (hK11 : ∀ (x0 : Int32) (S : kp_S), q_Gd 2 g S0 S → K11f x0 (q_w g S) = some v → K11 x0 S) (h : fX12_scan_b41 xn1 K11f (q_w g Sn) = some v) (kk : ∀ S, q_Gd 2 g S0 S → v = q_w g S → post S) : wX12_scan_b41 (g 0 12 0) xn1 K11 Sn post := by
  unfold wX12_scan_b41; unfold fX12_scan_b41 at h
  refine ⟨_, q_p2401 R, ?_⟩
  rw [q_l2401 R]
  obtain ⟨hi, h⟩ := q_in h
  refine ⟨hi, ?_⟩
  intro y4002 q
  replace h := q_ltw h q
  obtain ⟨y4004, v1, h1, h⟩ := q_bdi h
  refine b_X12_isLetter R h1 (fun T4003 R q => ?_)
  subst q
  refine ⟨fun c => ?_, fun c => ?_⟩
  · replace h := q_ifp h c
    obtain ⟨y4006, v1, h1, h⟩ := q_bdi h
    refine b_X12_isDigit R h1 (fun T4005 R q => ?_)
    subst q
    refine ⟨fun c => ?_, fun c => ?_⟩
    · replace h := q_ifp h c
      obtain ⟨y4008, v1, h1, h⟩ := q_bdi h
      refine b_X12_scanSign R h1 (fun T4007 R q => ?_)
      subst q
      exact b_X12_scan_b88 R hK11 h kk
    · replace h := q_ifn h c
      obtain ⟨y4010, v1, h1, h⟩ := q_bdi h
      refine b_X12_scanNumber R h1 (fun T4009 R q => ?_)
      subst q
      exact b_X12_scan_b88 R hK11 h kk
  · replace h := q_ifn h c
    obtain ⟨y4013, v1, h1, h⟩ := q_bdi h
    refine b_X12_scanName R h1 (fun T4012 R q => ?_)
    subst q
    exact b_X12_scan_b88 R hK11 h kk
def fX12_scan_L11  : Nat → Int32 → q_V → Option q_V
  | 0, _, _ => none
  | n + 1, xn1, Sn =>
  if (q_i Sn 2402) ≤ xn1 then
  fX12_scan_b108 Sn
  else
  if (q_i Sn 2407) = 0 then
  fX12_scan_b41 xn1 (fun xn1_ S_ => fX12_scan_L11 n xn1_ S_) Sn
  else
  if ((q_i Sn 2407) - 1) < 0 ∨ 3002 ≤ ((q_i Sn 2407) - 1).toNatClampNeg then none else
  if (q_a Sn 2404 ((q_i Sn 2407) - 1).toNatClampNeg) = 1 then
  fX12_scan_b108 Sn
  else
  fX12_scan_b41 xn1 (fun xn1_ S_ => fX12_scan_L11 n xn1_ S_) Sn
theorem b_X12_scan_L11 {g : q_G} {S0 : kp_S} {post : kp_S → Prop} {v : q_V}  (kk : ∀ S, q_Gd 2 g S0 S → v = q_w g S → post S) : ∀ (n : Nat) (xn1 : Int32) (Sn : kp_S), q_Gd 2 g S0 Sn → fX12_scan_L11  n xn1 (q_w g Sn) = some v → wX12_scan_L11 (g 0 12 0) post n xn1 Sn := by
  intro n
  induction n with
  | zero => intro xn1 Sn _ h; cases h
  | succ n ih =>
    intro xn1 Sn R h
    unfold wX12_scan_L11; unfold fX12_scan_L11 at h
    refine ⟨fun c => ?_, fun c => ?_⟩
    · replace h := q_ifp h c
      exact b_X12_scan_b108 R h kk
    · replace h := q_ifn h c
      refine ⟨fun c => ?_, fun c => ?_⟩
      · replace h := q_ifp h c
        exact b_X12_scan_b41 R (fun xn1_ S_ R h => ih xn1_ S_ R h) h kk
      · replace h := q_ifn h c
        refine ⟨_, q_p2404 R, ?_⟩
        rw [q_l2404 R]
        obtain ⟨hi, h⟩ := q_in h
        refine ⟨hi, ?_⟩
        refine ⟨fun c => ?_, fun c => ?_⟩
        · replace h := q_ifp h c
          exact b_X12_scan_b108 R h kk
        · replace h := q_ifn h c
          exact b_X12_scan_b41 R (fun xn1_ S_ R h => ih xn1_ S_ R h) h kk
def fX12_scan (S : q_V) : Option q_V :=
  q_lt (q_si S 2407 0) (fun T1 =>
  q_bd (fX12_behindBlanks 0 T1) (fun y3 T2 =>
  fX12_scan_L11 q_N y3 T2))
theorem b_X12_scan {g : q_G} {S0 : kp_S} {S : kp_S} {post : kp_S → Prop} {v : q_V} (R : q_Gd 2 g S0 S)  (h : fX12_scan (q_w g S) = some v) (kk : ∀ S, q_Gd 2 g S0 S → v = q_w g S → post S) : wX12_scan (g 0 12 0) S post := by
  unfold wX12_scan; unfold fX12_scan at h
  intro T1 q
  obtain ⟨R, q⟩ := q_wI R q rfl rfl
  replace h := q_ltw h q
  obtain ⟨y3, v1, h1, h⟩ := q_bdi h
  refine b_X12_behindBlanks R h1 (fun T2 R q => ?_)
  subst q
  exact ⟨q_N, b_X12_scan_L11 kk q_N _ _ R h⟩
def fX12_emit (x1 : Int32) (x2 : Int32) (x3 : Int32) (S : q_V) : Option (Int32 × q_V) :=
  if (q_i S 2417) < 0 ∨ 4000 ≤ (q_i S 2417).toNatClampNeg then none else
  q_lt (q_sa S 2414 ((upd (q_a S 2414) ((q_i S 2417).toNatClampNeg) x1))) (fun T2 =>
  if (q_i T2 2417) < 0 ∨ 4000 ≤ (q_i T2 2417).toNatClampNeg then none else
  q_lt (q_sa T2 2415 ((upd (q_a T2 2415) ((q_i T2 2417).toNatClampNeg) x2))) (fun T4 =>
  if (q_i T4 2417) < 0 ∨ 4000 ≤ (q_i T4 2417).toNatClampNeg then none else
  q_lt (q_sa T4 2416 ((upd (q_a T4 2416) ((q_i T4 2417).toNatClampNeg) x3))) (fun T6 =>
  q_lt (q_si T6 2417 (((q_i T6 2417) + 1))) (fun T7 =>
  some (((q_i T7 2417) - 1), T7)))))
theorem b_X12_emit {g : q_G} {S0 : kp_S} {x1 : Int32} {x2 : Int32} {x3 : Int32} {S : kp_S} {post : Int32 → kp_S → Prop} {y : Int32} {v : q_V} (R : q_Gd 2 g S0 S)  (h : fX12_emit x1 x2 x3 (q_w g S) = some (y, v)) (kk : ∀ S, q_Gd 2 g S0 S → v = q_w g S → post y S) : wX12_emit (g 0 12 0) x1 x2 x3 S post := by
  unfold wX12_emit; unfold fX12_emit at h
  refine ⟨_, q_p2414 R, ?_⟩
  rw [q_l2414 R]
  obtain ⟨hi, h⟩ := q_in h
  refine ⟨hi, ?_⟩
  intro T2 q
  obtain ⟨R, q⟩ := q_wA R q rfl
  replace h := q_ltw h q
  refine ⟨_, q_p2415 R, ?_⟩
  rw [q_l2415 R]
  obtain ⟨hi, h⟩ := q_in h
  refine ⟨hi, ?_⟩
  intro T4 q
  obtain ⟨R, q⟩ := q_wA R q rfl
  replace h := q_ltw h q
  refine ⟨_, q_p2416 R, ?_⟩
  rw [q_l2416 R]
  obtain ⟨hi, h⟩ := q_in h
  refine ⟨hi, ?_⟩
  intro T6 q
  obtain ⟨R, q⟩ := q_wA R q rfl
  replace h := q_ltw h q
  intro T7 q
  obtain ⟨R, q⟩ := q_wI R q rfl rfl
  replace h := q_ltw h q
  exact q_fin h kk R
def fX12_fine_b12 (xt0 : Int32) (Sn : q_V) : Option (Int32 × q_V) :=
  if ¬ (xt0 = 0 ∨ xt0 = 1) then none else
  some (xt0, Sn)
theorem b_X12_fine_b12 {g : q_G} {S0 : kp_S} {xt0 : Int32} {Sn : kp_S} {post : Int32 → kp_S → Prop} {y : Int32} {v : q_V} (R : q_Gd 2 g S0 Sn)  (h : fX12_fine_b12 xt0 (q_w g Sn) = some (y, v)) (kk : ∀ S, q_Gd 2 g S0 S → v = q_w g S → post y S) : wX12_fine_b12 (g 0 12 0) xt0 Sn post := by
  unfold wX12_fine_b12; unfold fX12_fine_b12 at h
  obtain ⟨hi, h⟩ := q_in h
  refine ⟨Classical.not_not.mp hi, ?_⟩
  exact q_fin h kk R
def fX12_fine (S : q_V) : Option (Int32 × q_V) :=
  if (q_i S 2408) = 0 then
  fX12_fine_b12 1 S
  else
  fX12_fine_b12 0 S
theorem b_X12_fine {g : q_G} {S0 : kp_S} {S : kp_S} {post : Int32 → kp_S → Prop} {y : Int32} {v : q_V} (R : q_Gd 2 g S0 S)  (h : fX12_fine (q_w g S) = some (y, v)) (kk : ∀ S, q_Gd 2 g S0 S → v = q_w g S → post y S) : wX12_fine (g 0 12 0) S post := by
  unfold wX12_fine; unfold fX12_fine at h
  refine ⟨fun c => ?_, fun c => ?_⟩
  · replace h := q_ifn h c
    exact b_X12_fine_b12 R h kk
  · replace h := q_ifp h c
    exact b_X12_fine_b12 R h kk
def fX12_wrong_b27 (xt0 : Int32) (Sn : q_V) : Option q_V :=
  q_lt (q_si Sn 2408 xt0) (fun T1001 =>
  if (q_i T1001 2410) < 0 ∨ 3002 ≤ (q_i T1001 2410).toNatClampNeg then none else
  q_lt (q_si T1001 2409 ((q_a T1001 2405 (q_i T1001 2410).toNatClampNeg))) (fun T1003 =>
  some T1003))
theorem b_X12_wrong_b27 {g : q_G} {S0 : kp_S} {xt0 : Int32} {Sn : kp_S} {post : kp_S → Prop} {v : q_V} (R : q_Gd 2 g S0 Sn)  (h : fX12_wrong_b27 xt0 (q_w g Sn) = some v) (kk : ∀ S, q_Gd 2 g S0 S → v = q_w g S → post S) : wX12_wrong_b27 (g 0 12 0) xt0 (g 0 12 0) Sn post := by
  unfold wX12_wrong_b27; unfold fX12_wrong_b27 at h
  intro T1001 q
  obtain ⟨R, q⟩ := q_wI R q rfl rfl
  replace h := q_ltw h q
  refine ⟨_, q_p2405 R, ?_⟩
  rw [q_l2405 R]
  obtain ⟨hi, h⟩ := q_in h
  refine ⟨hi, ?_⟩
  intro T1003 q
  obtain ⟨R, q⟩ := q_wI R q rfl rfl
  replace h := q_ltw h q
  exact q_finv h kk R
def fX12_wrong (S : q_V) : Option q_V :=
  if (q_i S 2408) ≤ 0 then
  if (q_i S 2410) < 0 ∨ 3002 ≤ (q_i S 2410).toNatClampNeg then none else
  if (q_a S 2404 (q_i S 2410).toNatClampNeg) = 1 then
  fX12_wrong_b27 1 S
  else
  fX12_wrong_b27 2 S
  else
  some S
theorem b_X12_wrong {g : q_G} {S0 : kp_S} {S : kp_S} {post : kp_S → Prop} {v : q_V} (R : q_Gd 2 g S0 S)  (h : fX12_wrong (q_w g S) = some v) (kk : ∀ S, q_Gd 2 g S0 S → v = q_w g S → post S) : wX12_wrong (g 0 12 0) S post := by
  unfold wX12_wrong; unfold fX12_wrong at h
  refine ⟨fun c => ?_, fun c => ?_⟩
  · replace h := q_ifp h c
    refine ⟨_, q_p2404 R, ?_⟩
    rw [q_l2404 R]
    obtain ⟨hi, h⟩ := q_in h
    refine ⟨hi, ?_⟩
    refine ⟨fun c => ?_, fun c => ?_⟩
    · replace h := q_ifn h c
      exact b_X12_wrong_b27 R h kk
    · replace h := q_ifp h c
      exact b_X12_wrong_b27 R h kk
  · replace h := q_ifn h c
    exact q_finv h kk R
def fX12_is_b25 (x1 : Int32) (xt0 : Int32) (Sn : q_V) : Option (Int32 × q_V) :=
  if ¬ (xt0 = 0 ∨ xt0 = 1) then none else
  some (xt0, Sn)
theorem b_X12_is_b25 {g : q_G} {S0 : kp_S} {x1 : Int32} {xt0 : Int32} {Sn : kp_S} {post : Int32 → kp_S → Prop} {y : Int32} {v : q_V} (R : q_Gd 2 g S0 Sn)  (h : fX12_is_b25 x1 xt0 (q_w g Sn) = some (y, v)) (kk : ∀ S, q_Gd 2 g S0 S → v = q_w g S → post y S) : wX12_is_b25 (g 0 12 0) x1 xt0 Sn post := by
  unfold wX12_is_b25; unfold fX12_is_b25 at h
  obtain ⟨hi, h⟩ := q_in h
  refine ⟨Classical.not_not.mp hi, ?_⟩
  exact q_fin h kk R
def fX12_is_b24 (x1 : Int32) (Sn : q_V) : Option (Int32 × q_V) :=
  fX12_is_b25 x1 0 Sn
theorem b_X12_is_b24 {g : q_G} {S0 : kp_S} {x1 : Int32} {Sn : kp_S} {post : Int32 → kp_S → Prop} {y : Int32} {v : q_V} (R : q_Gd 2 g S0 Sn)  (h : fX12_is_b24 x1 (q_w g Sn) = some (y, v)) (kk : ∀ S, q_Gd 2 g S0 S → v = q_w g S → post y S) : wX12_is_b24 (g 0 12 0) x1 Sn post := by
  unfold wX12_is_b24; unfold fX12_is_b24 at h
  exact b_X12_is_b25 R h kk
def fX12_is (x1 : Int32) (S : q_V) : Option (Int32 × q_V) :=
  if (q_i S 2408) = 0 then
  if (q_i S 2410) < 0 ∨ 3002 ≤ (q_i S 2410).toNatClampNeg then none else
  if (q_a S 2404 (q_i S 2410).toNatClampNeg) = x1 then
  fX12_is_b25 x1 1 S
  else
  fX12_is_b24 x1 S
  else
  fX12_is_b24 x1 S
theorem b_X12_is {g : q_G} {S0 : kp_S} {x1 : Int32} {S : kp_S} {post : Int32 → kp_S → Prop} {y : Int32} {v : q_V} (R : q_Gd 2 g S0 S)  (h : fX12_is x1 (q_w g S) = some (y, v)) (kk : ∀ S, q_Gd 2 g S0 S → v = q_w g S → post y S) : wX12_is (g 0 12 0) x1 S post := by
  unfold wX12_is; unfold fX12_is at h
  refine ⟨fun c => ?_, fun c => ?_⟩
  · replace h := q_ifn h c
    exact b_X12_is_b24 R h kk
  · replace h := q_ifp h c
    refine ⟨_, q_p2404 R, ?_⟩
    rw [q_l2404 R]
    obtain ⟨hi, h⟩ := q_in h
    refine ⟨hi, ?_⟩
    refine ⟨fun c => ?_, fun c => ?_⟩
    · replace h := q_ifn h c
      exact b_X12_is_b24 R h kk
    · replace h := q_ifp h c
      exact b_X12_is_b25 R h kk
def fX12_isSign (x1 : Int32) (S : q_V) : Option (Int32 × q_V) :=
  q_bd (fX12_is ((100 + x1)) S) (fun y2 T1 =>
  if ¬ (y2 = 0 ∨ y2 = 1) then none else
  some (y2, T1))
theorem b_X12_isSign {g : q_G} {S0 : kp_S} {x1 : Int32} {S : kp_S} {post : Int32 → kp_S → Prop} {y : Int32} {v : q_V} (R : q_Gd 2 g S0 S)  (h : fX12_isSign x1 (q_w g S) = some (y, v)) (kk : ∀ S, q_Gd 2 g S0 S → v = q_w g S → post y S) : wX12_isSign (g 0 12 0) x1 S post := by
  unfold wX12_isSign; unfold fX12_isSign at h
  obtain ⟨y2, v1, h1, h⟩ := q_bdi h
  refine b_X12_is R h1 (fun T1 R q => ?_)
  subst q
  obtain ⟨hi, h⟩ := q_in h
  refine ⟨Classical.not_not.mp hi, ?_⟩
  exact q_fin h kk R
def fX12_take_b25 (x1 : Int32) (Sn : q_V) : Option q_V :=
  some Sn
theorem b_X12_take_b25 {g : q_G} {S0 : kp_S} {x1 : Int32} {Sn : kp_S} {post : kp_S → Prop} {v : q_V} (R : q_Gd 2 g S0 Sn)  (h : fX12_take_b25 x1 (q_w g Sn) = some v) (kk : ∀ S, q_Gd 2 g S0 S → v = q_w g S → post S) : wX12_take_b25 (g 0 12 0) x1 Sn post := by
  unfold wX12_take_b25; unfold fX12_take_b25 at h
  exact q_finv h kk R
def fX12_take (x1 : Int32) (S : q_V) : Option q_V :=
  q_bd (fX12_is x1 S) (fun y2 T1 =>
  if y2 = 0 then
  q_bv (fX12_wrong T1) (fun T3 =>
  fX12_take_b25 x1 T3)
  else
  q_lt (q_si T1 2410 (((q_i T1 2410) + 1))) (fun T4 =>
  fX12_take_b25 x1 T4))
theorem b_X12_take {g : q_G} {S0 : kp_S} {x1 : Int32} {S : kp_S} {post : kp_S → Prop} {v : q_V} (R : q_Gd 2 g S0 S)  (h : fX12_take x1 (q_w g S) = some v) (kk : ∀ S, q_Gd 2 g S0 S → v = q_w g S → post S) : wX12_take (g 0 12 0) x1 S post := by
  unfold wX12_take; unfold fX12_take at h
  obtain ⟨y2, v1, h1, h⟩ := q_bdi h
  refine b_X12_is R h1 (fun T1 R q => ?_)
  subst q
  refine ⟨fun c => ?_, fun c => ?_⟩
  · replace h := q_ifp h c
    obtain ⟨v1, h1, h⟩ := q_bvi h
    refine b_X12_wrong R h1 (fun T3 R q => ?_)
    subst q
    exact b_X12_take_b25 R h kk
  · replace h := q_ifn h c
    intro T4 q
    obtain ⟨R, q⟩ := q_wI R q rfl rfl
    replace h := q_ltw h q
    exact b_X12_take_b25 R h kk
def fX12_takeSign (x1 : Int32) (S : q_V) : Option q_V :=
  q_bv (fX12_take ((100 + x1)) S) (fun T1 =>
  some T1)
theorem b_X12_takeSign {g : q_G} {S0 : kp_S} {x1 : Int32} {S : kp_S} {post : kp_S → Prop} {v : q_V} (R : q_Gd 2 g S0 S)  (h : fX12_takeSign x1 (q_w g S) = some v) (kk : ∀ S, q_Gd 2 g S0 S → v = q_w g S → post S) : wX12_takeSign (g 0 12 0) x1 S post := by
  unfold wX12_takeSign; unfold fX12_takeSign at h
  obtain ⟨v1, h1, h⟩ := q_bvi h
  refine b_X12_take R h1 (fun T1 R q => ?_)
  subst q
  exact q_finv h kk R
def fX12_skip_b20 (x1 : Int32) (xn2 : Int32) (xt0 : Int32) (xt1 : Int32) (Sn : q_V) : Option (Int32 × q_V) :=
  q_lt (q_si Sn 2410 ((xt1 + xt0))) (fun T1001 =>
  if ¬ (xn2 = 0 ∨ xn2 = 1) then none else
  some (xn2, T1001))
theorem b_X12_skip_b20 {g : q_G} {S0 : kp_S} {x1 : Int32} {xn2 : Int32} {xt0 : Int32} {xt1 : Int32} {Sn : kp_S} {post : Int32 → kp_S → Prop} {y : Int32} {v : q_V} (R : q_Gd 2 g S0 Sn)  (h : fX12_skip_b20 x1 xn2 xt0 xt1 (q_w g Sn) = some (y, v)) (kk : ∀ S, q_Gd 2 g S0 S → v = q_w g S → post y S) : wX12_skip_b20 (g 0 12 0) x1 xn2 xt0 xt1 (g 0 12 0) Sn post := by
  unfold wX12_skip_b20; unfold fX12_skip_b20 at h
  intro T1001 q
  obtain ⟨R, q⟩ := q_wI R q rfl rfl
  replace h := q_ltw h q
  obtain ⟨hi, h⟩ := q_in h
  refine ⟨Classical.not_not.mp hi, ?_⟩
  exact q_fin h kk R
def fX12_skip (x1 : Int32) (S : q_V) : Option (Int32 × q_V) :=
  q_bd (fX12_is x1 S) (fun y2 T1 =>
  if y2 = 0 then
  fX12_skip_b20 x1 y2 0 ((q_i T1 2410)) T1
  else
  fX12_skip_b20 x1 y2 1 ((q_i T1 2410)) T1)
theorem b_X12_skip {g : q_G} {S0 : kp_S} {x1 : Int32} {S : kp_S} {post : Int32 → kp_S → Prop} {y : Int32} {v : q_V} (R : q_Gd 2 g S0 S)  (h : fX12_skip x1 (q_w g S) = some (y, v)) (kk : ∀ S, q_Gd 2 g S0 S → v = q_w g S → post y S) : wX12_skip (g 0 12 0) x1 S post := by
  unfold wX12_skip; unfold fX12_skip at h
  obtain ⟨y2, v1, h1, h⟩ := q_bdi h
  refine b_X12_is R h1 (fun T1 R q => ?_)
  subst q
  refine ⟨fun c => ?_, fun c => ?_⟩
  · replace h := q_ifp h c
    exact b_X12_skip_b20 R h kk
  · replace h := q_ifn h c
    exact b_X12_skip_b20 R h kk
def fX12_nest (S : q_V) : Option q_V :=
  if (q_i S 2408) ≤ 0 then
  if (q_i S 2411) = 14 then
  q_lt (q_si S 2408 3) (fun T3 =>
  if (q_i T3 2410) < 0 ∨ 3002 ≤ (q_i T3 2410).toNatClampNeg then none else
  q_lt (q_si T3 2409 ((q_a T3 2405 (q_i T3 2410).toNatClampNeg))) (fun T5 =>
  some T5))
  else
  q_lt (q_si S 2411 (((q_i S 2411) + 1))) (fun T1 =>
  q_lt (q_si T1 2410 (((q_i T1 2410) + 1))) (fun T2 =>
  some T2))
  else
  some S
theorem b_X12_nest {g : q_G} {S0 : kp_S} {S : kp_S} {post : kp_S → Prop} {v : q_V} (R : q_Gd 2 g S0 S)  (h : fX12_nest (q_w g S) = some v) (kk : ∀ S, q_Gd 2 g S0 S → v = q_w g S → post S) : wX12_nest (g 0 12 0) S post := by
  unfold wX12_nest; unfold fX12_nest at h
  refine ⟨fun c => ?_, fun c => ?_⟩
  · replace h := q_ifp h c
    refine ⟨fun c => ?_, fun c => ?_⟩
    · replace h := q_ifn h c
      intro T1 q
      obtain ⟨R, q⟩ := q_wI R q rfl rfl
      replace h := q_ltw h q
      intro T2 q
      obtain ⟨R, q⟩ := q_wI R q rfl rfl
      replace h := q_ltw h q
      exact q_finv h kk R
    · replace h := q_ifp h c
      intro T3 q
      obtain ⟨R, q⟩ := q_wI R q rfl rfl
      replace h := q_ltw h q
      refine ⟨_, q_p2405 R, ?_⟩
      rw [q_l2405 R]
      obtain ⟨hi, h⟩ := q_in h
      refine ⟨hi, ?_⟩
      intro T5 q
      obtain ⟨R, q⟩ := q_wI R q rfl rfl
      replace h := q_ltw h q
      exact q_finv h kk R
  · replace h := q_ifn h c
    exact q_finv h kk R
def fX12_bad_b48 (x1 : Int32) (x2 : Int32) (Sn : q_V) : Option q_V :=
  some Sn
theorem b_X12_bad_b48 {g : q_G} {S0 : kp_S} {x1 : Int32} {x2 : Int32} {Sn : kp_S} {post : kp_S → Prop} {v : q_V} (R : q_Gd 2 g S0 Sn)  (h : fX12_bad_b48 x1 x2 (q_w g Sn) = some v) (kk : ∀ S, q_Gd 2 g S0 S → v = q_w g S → post S) : wX12_bad_b48 (g 0 12 0) x1 x2 Sn post := by
  unfold wX12_bad_b48; unfold fX12_bad_b48 at h
  exact q_finv h kk R
def fX12_bad_b49 (x1 : Int32) (x2 : Int32) (Sn : q_V) : Option q_V :=
  q_lt (q_si Sn 2412 x1) (fun T2001 =>
  if (x2) < 0 ∨ 3002 ≤ (x2).toNatClampNeg then none else
  q_lt (q_si T2001 2413 ((q_a T2001 2405 x2.toNatClampNeg))) (fun T2003 =>
  some T2003))
theorem b_X12_bad_b49 {g : q_G} {S0 : kp_S} {x1 : Int32} {x2 : Int32} {Sn : kp_S} {post : kp_S → Prop} {v : q_V} (R : q_Gd 2 g S0 Sn)  (h : fX12_bad_b49 x1 x2 (q_w g Sn) = some v) (kk : ∀ S, q_Gd 2 g S0 S → v = q_w g S → post S) : wX12_bad_b49 (g 0 12 0) x1 x2 Sn post := by
  unfold wX12_bad_b49; unfold fX12_bad_b49 at h
  intro T2001 q
  obtain ⟨R, q⟩ := q_wI R q rfl rfl
  replace h := q_ltw h q
  refine ⟨_, q_p2405 R, ?_⟩
  rw [q_l2405 R]
  obtain ⟨hi, h⟩ := q_in h
  refine ⟨hi, ?_⟩
  intro T2003 q
  obtain ⟨R, q⟩ := q_wI R q rfl rfl
  replace h := q_ltw h q
  exact q_finv h kk R
def fX12_bad (x1 : Int32) (x2 : Int32) (S : q_V) : Option q_V :=
  if 0 < (q_i S 2408) then
  fX12_bad_b48 x1 x2 S
  else
  if (q_i S 2412) ≤ 0 then
  fX12_bad_b49 x1 x2 S
  else
  if (x2) < 0 ∨ 3002 ≤ (x2).toNatClampNeg then none else
  if (q_i S 2413) < (q_a S 2405 x2.toNatClampNeg) then
  fX12_bad_b48 x1 x2 S
  else
  if (x2) < 0 ∨ 3002 ≤ (x2).toNatClampNeg then none else
  if (q_a S 2405 x2.toNatClampNeg) = (q_i S 2413) then
  if x1 < (q_i S 2412) then
  fX12_bad_b49 x1 x2 S
  else
  fX12_bad_b48 x1 x2 S
  else
  fX12_bad_b49 x1 x2 S
theorem b_X12_bad {g : q_G} {S0 : kp_S} {x1 : Int32} {x2 : Int32} {S : kp_S} {post : kp_S → Prop} {v : q_V} (R : q_Gd 2 g S0 S)  (h : fX12_bad x1 x2 (q_w g S) = some v) (kk : ∀ S, q_Gd 2 g S0 S → v = q_w g S → post S) : wX12_bad (g 0 12 0) x1 x2 S post := by
  unfold wX12_bad; unfold fX12_bad at h
  refine ⟨fun c => ?_, fun c => ?_⟩
  · replace h := q_ifp h c
    exact b_X12_bad_b48 R h kk
  · replace h := q_ifn h c
    refine ⟨fun c => ?_, fun c => ?_⟩
    · replace h := q_ifp h c
      exact b_X12_bad_b49 R h kk
    · replace h := q_ifn h c
      refine ⟨_, q_p2405 R, ?_⟩
      rw [q_l2405 R]
      obtain ⟨hi, h⟩ := q_in h
      refine ⟨hi, ?_⟩
      refine ⟨fun c => ?_, fun c => ?_⟩
      · replace h := q_ifp h c
        exact b_X12_bad_b48 R h kk
      · replace h := q_ifn h c
        obtain ⟨hi, h⟩ := q_in h
        refine ⟨hi, ?_⟩
        refine ⟨fun c => ?_, fun c => ?_⟩
        · replace h := q_ifn h c
          exact b_X12_bad_b49 R h kk
        · replace h := q_ifp h c
          refine ⟨fun c => ?_, fun c => ?_⟩
          · replace h := q_ifp h c
            exact b_X12_bad_b49 R h kk
          · replace h := q_ifn h c
            exact b_X12_bad_b48 R h kk
def fX12_known_L7 (w1 : Int64) : Nat → Int32 → q_V → Option (Int32 × q_V)
  | 0, _, _ => none
  | n + 1, xn3, Sn =>
  if xn3 < 0 then
  some ((- 1), Sn)
  else
  if (xn3) < 0 ∨ 1600 ≤ (xn3).toNatClampNeg then none else
  if (lg_cmp (q_b Sn 2439 xn3.toNatClampNeg) w1) = 0 then
  if (xn3) < 0 ∨ 1600 ≤ (xn3).toNatClampNeg then none else
  some ((q_a Sn 2440 xn3.toNatClampNeg), Sn)
  else
  q_lt (xn3 + (- 1) : Int32) (fun y1002 =>
  fX12_known_L7 w1 n y1002 Sn)
theorem b_X12_known_L7 {g : q_G} {S0 : kp_S} {w1 : Int64} {post : Int32 → kp_S → Prop} {y : Int32} {v : q_V}  (kk : ∀ S, q_Gd 2 g S0 S → v = q_w g S → post y S) : ∀ (n : Nat) (xn3 : Int32) (Sn : kp_S), q_Gd 2 g S0 Sn → fX12_known_L7 w1 n xn3 (q_w g Sn) = some (y, v) → wX12_known_L7 (g 0 12 0) w1 post n xn3 Sn := by
  intro n
  induction n with
  | zero => intro xn3 Sn _ h; cases h
  | succ n ih =>
    intro xn3 Sn R h
    unfold wX12_known_L7; unfold fX12_known_L7 at h
    refine ⟨fun c => ?_, fun c => ?_⟩
    · replace h := q_ifp h c
      exact q_fin h kk R
    · replace h := q_ifn h c
      refine ⟨_, q_p2439 R, ?_⟩
      rw [q_l2439 R]
      obtain ⟨hi, h⟩ := q_in h
      refine ⟨hi, ?_⟩
      refine ⟨fun c => ?_, fun c => ?_⟩
      · replace h := q_ifn h c
        intro y1002 q
        replace h := q_ltw h q
        exact ih _ _ R h
      · replace h := q_ifp h c
        refine ⟨_, q_p2440 R, ?_⟩
        rw [q_l2440 R]
        obtain ⟨hi, h⟩ := q_in h
        refine ⟨hi, ?_⟩
        exact q_fin h kk R
def fX12_known (w1 : Int64) (S : q_V) : Option (Int32 × q_V) :=
  q_lt (((q_i S 2441) - 1) : Int32) (fun y1 =>
  fX12_known_L7 w1 q_N y1 S)
theorem b_X12_known {g : q_G} {S0 : kp_S} {w1 : Int64} {S : kp_S} {post : Int32 → kp_S → Prop} {y : Int32} {v : q_V} (R : q_Gd 2 g S0 S)  (h : fX12_known w1 (q_w g S) = some (y, v)) (kk : ∀ S, q_Gd 2 g S0 S → v = q_w g S → post y S) : wX12_known (g 0 12 0) w1 S post := by
  unfold wX12_known; unfold fX12_known at h
  intro y1 q
  replace h := q_ltw h q
  exact ⟨q_N, b_X12_known_L7 kk q_N _ _ R h⟩
def fX12_know (w1 : Int64) (S : q_V) : Option (Int32 × q_V) :=
  if (q_i S 2441) < 0 ∨ 1600 ≤ (q_i S 2441).toNatClampNeg then none else
  q_lt (q_sb S 2439 ((vp_updL (q_b S 2439) ((q_i S 2441).toNatClampNeg) w1))) (fun T2 =>
  if (q_i T2 2441) < 0 ∨ 1600 ≤ (q_i T2 2441).toNatClampNeg then none else
  q_lt (q_sa T2 2440 ((upd (q_a T2 2440) ((q_i T2 2441).toNatClampNeg) (q_i T2 2442)))) (fun T4 =>
  q_lt (q_si T4 2441 (((q_i T4 2441) + 1))) (fun T5 =>
  q_lt (q_si T5 2442 (((q_i T5 2442) + 1))) (fun T6 =>
  some (((q_i T6 2442) - 1), T6)))))
theorem b_X12_know {g : q_G} {S0 : kp_S} {w1 : Int64} {S : kp_S} {post : Int32 → kp_S → Prop} {y : Int32} {v : q_V} (R : q_Gd 2 g S0 S)  (h : fX12_know w1 (q_w g S) = some (y, v)) (kk : ∀ S, q_Gd 2 g S0 S → v = q_w g S → post y S) : wX12_know (g 0 12 0) w1 S post := by
  unfold wX12_know; unfold fX12_know at h
  refine ⟨_, q_p2439 R, ?_⟩
  rw [q_l2439 R]
  obtain ⟨hi, h⟩ := q_in h
  refine ⟨hi, ?_⟩
  intro T2 q
  obtain ⟨R, q⟩ := q_wB R q rfl
  replace h := q_ltw h q
  refine ⟨_, q_p2440 R, ?_⟩
  rw [q_l2440 R]
  obtain ⟨hi, h⟩ := q_in h
  refine ⟨hi, ?_⟩
  intro T4 q
  obtain ⟨R, q⟩ := q_wA R q rfl
  replace h := q_ltw h q
  intro T5 q
  obtain ⟨R, q⟩ := q_wI R q rfl rfl
  replace h := q_ltw h q
  intro T6 q
  obtain ⟨R, q⟩ := q_wI R q rfl rfl
  replace h := q_ltw h q
  exact q_fin h kk R
def fX12_dutyOf_L2 (w1 : Int64) : Nat → Int32 → q_V → Option (Int32 × q_V)
  | 0, _, _ => none
  | n + 1, xn3, Sn =>
  if (q_i Sn 2433) ≤ xn3 then
  some ((- 1), Sn)
  else
  if (xn3) < 0 ∨ 320 ≤ (xn3).toNatClampNeg then none else
  if (lg_cmp (q_b Sn 2427 xn3.toNatClampNeg) w1) = 0 then
  some (xn3, Sn)
  else
  q_lt (xn3 + 1 : Int32) (fun y1002 =>
  fX12_dutyOf_L2 w1 n y1002 Sn)
theorem b_X12_dutyOf_L2 {g : q_G} {S0 : kp_S} {w1 : Int64} {post : Int32 → kp_S → Prop} {y : Int32} {v : q_V}  (kk : ∀ S, q_Gd 2 g S0 S → v = q_w g S → post y S) : ∀ (n : Nat) (xn3 : Int32) (Sn : kp_S), q_Gd 2 g S0 Sn → fX12_dutyOf_L2 w1 n xn3 (q_w g Sn) = some (y, v) → wX12_dutyOf_L2 (g 0 12 0) w1 post n xn3 Sn := by
  intro n
  induction n with
  | zero => intro xn3 Sn _ h; cases h
  | succ n ih =>
    intro xn3 Sn R h
    unfold wX12_dutyOf_L2; unfold fX12_dutyOf_L2 at h
    refine ⟨fun c => ?_, fun c => ?_⟩
    · replace h := q_ifp h c
      exact q_fin h kk R
    · replace h := q_ifn h c
      refine ⟨_, q_p2427 R, ?_⟩
      rw [q_l2427 R]
      obtain ⟨hi, h⟩ := q_in h
      refine ⟨hi, ?_⟩
      refine ⟨fun c => ?_, fun c => ?_⟩
      · replace h := q_ifn h c
        intro y1002 q
        replace h := q_ltw h q
        exact ih _ _ R h
      · replace h := q_ifp h c
        exact q_fin h kk R
def fX12_dutyOf (w1 : Int64) (S : q_V) : Option (Int32 × q_V) :=
  fX12_dutyOf_L2 w1 q_N 0 S
theorem b_X12_dutyOf {g : q_G} {S0 : kp_S} {w1 : Int64} {S : kp_S} {post : Int32 → kp_S → Prop} {y : Int32} {v : q_V} (R : q_Gd 2 g S0 S)  (h : fX12_dutyOf w1 (q_w g S) = some (y, v)) (kk : ∀ S, q_Gd 2 g S0 S → v = q_w g S → post y S) : wX12_dutyOf (g 0 12 0) w1 S post := by
  unfold wX12_dutyOf; unfold fX12_dutyOf at h
  exact ⟨q_N, b_X12_dutyOf_L2 kk q_N _ _ R h⟩
def fX12_parameter_b54 (xn1 : Int32) (Sn : q_V) : Option q_V :=
  if (xn1) < 0 ∨ 3002 ≤ (xn1).toNatClampNeg then none else
  q_bd (fX12_know ((q_b Sn 2406 xn1.toNatClampNeg)) Sn) (fun y1003 T1002 =>
  some T1002)
theorem b_X12_parameter_b54 {g : q_G} {S0 : kp_S} {xn1 : Int32} {Sn : kp_S} {post : kp_S → Prop} {v : q_V} (R : q_Gd 2 g S0 Sn)  (h : fX12_parameter_b54 xn1 (q_w g Sn) = some v) (kk : ∀ S, q_Gd 2 g S0 S → v = q_w g S → post S) : wX12_parameter_b54 (g 0 12 0) xn1 Sn post := by
  unfold wX12_parameter_b54; unfold fX12_parameter_b54 at h
  refine ⟨_, q_p2406 R, ?_⟩
  rw [q_l2406 R]
  obtain ⟨hi, h⟩ := q_in h
  refine ⟨hi, ?_⟩
  obtain ⟨y1003, v1, h1, h⟩ := q_bdi h
  refine b_X12_know R h1 (fun T1002 R q => ?_)
  subst q
  exact q_finv h kk R
def fX12_parameter_b38 (xn1 : Int32) (Sn : q_V) : Option q_V :=
  if (q_i Sn 2442) < 8 then
  fX12_parameter_b54 xn1 Sn
  else
  q_bv (fX12_bad 8 xn1 Sn) (fun T2001 =>
  fX12_parameter_b54 xn1 T2001)
theorem b_X12_parameter_b38 {g : q_G} {S0 : kp_S} {xn1 : Int32} {Sn : kp_S} {post : kp_S → Prop} {v : q_V} (R : q_Gd 2 g S0 Sn)  (h : fX12_parameter_b38 xn1 (q_w g Sn) = some v) (kk : ∀ S, q_Gd 2 g S0 S → v = q_w g S → post S) : wX12_parameter_b38 (g 0 12 0) xn1 Sn post := by
  unfold wX12_parameter_b38; unfold fX12_parameter_b38 at h
  refine ⟨fun c => ?_, fun c => ?_⟩
  · replace h := q_ifp h c
    exact b_X12_parameter_b54 R h kk
  · replace h := q_ifn h c
    obtain ⟨v1, h1, h⟩ := q_bvi h
    refine b_X12_bad R h1 (fun T2001 R q => ?_)
    subst q
    exact b_X12_parameter_b54 R h kk
def fX12_parameter (S : q_V) : Option q_V :=
  q_lt ((q_i S 2410) : Int32) (fun y1 =>
  q_bv (fX12_take 2 S) (fun T2 =>
  q_bd (fX12_fine T2) (fun y4 T3 =>
  if y4 = 0 then
  some T3
  else
  if (y1) < 0 ∨ 3002 ≤ (y1).toNatClampNeg then none else
  q_bd (fX12_known ((q_b T3 2406 y1.toNatClampNeg)) T3) (fun y7 T6 =>
  if y7 = (- 1) then
  fX12_parameter_b38 y1 T6
  else
  q_bv (fX12_bad 4 y1 T6) (fun T8 =>
  fX12_parameter_b38 y1 T8)))))
theorem b_X12_parameter {g : q_G} {S0 : kp_S} {S : kp_S} {post : kp_S → Prop} {v : q_V} (R : q_Gd 2 g S0 S)  (h : fX12_parameter (q_w g S) = some v) (kk : ∀ S, q_Gd 2 g S0 S → v = q_w g S → post S) : wX12_parameter (g 0 12 0) S post := by
  unfold wX12_parameter; unfold fX12_parameter at h
  intro y1 q
  replace h := q_ltw h q
  obtain ⟨v1, h1, h⟩ := q_bvi h
  refine b_X12_take R h1 (fun T2 R q => ?_)
  subst q
  obtain ⟨y4, v1, h1, h⟩ := q_bdi h
  refine b_X12_fine R h1 (fun T3 R q => ?_)
  subst q
  refine ⟨fun c => ?_, fun c => ?_⟩
  · replace h := q_ifn h c
    refine ⟨_, q_p2406 R, ?_⟩
    rw [q_l2406 R]
    obtain ⟨hi, h⟩ := q_in h
    refine ⟨hi, ?_⟩
    obtain ⟨y7, v1, h1, h⟩ := q_bdi h
    refine b_X12_known R h1 (fun T6 R q => ?_)
    subst q
    refine ⟨fun c => ?_, fun c => ?_⟩
    · replace h := q_ifp h c
      exact b_X12_parameter_b38 R h kk
    · replace h := q_ifn h c
      obtain ⟨v1, h1, h⟩ := q_bvi h
      refine b_X12_bad R h1 (fun T8 R q => ?_)
      subst q
      exact b_X12_parameter_b38 R h kk
  · replace h := q_ifp h c
    exact q_finv h kk R
def fX12_risky_b16 (w1 : Int64) (wt0 : Int64) (Sn : q_V) : Option (Int64 × q_V) :=
  some (wt0, Sn)
theorem b_X12_risky_b16 {g : q_G} {S0 : kp_S} {w1 : Int64} {wt0 : Int64} {Sn : kp_S} {post : Int64 → kp_S → Prop} {y : Int64} {v : q_V} (R : q_Gd 2 g S0 Sn)  (h : fX12_risky_b16 w1 wt0 (q_w g Sn) = some (y, v)) (kk : ∀ S, q_Gd 2 g S0 S → v = q_w g S → post y S) : wX12_risky_b16 (g 0 12 0) w1 wt0 Sn post := by
  unfold wX12_risky_b16; unfold fX12_risky_b16 at h
  exact q_fin h kk R
def fX12_risky (w1 : Int64) (S : q_V) : Option (Int64 × q_V) :=
  if (q_i S 2425) = 0 then
  fX12_risky_b16 w1 w1 S
  else
  fX12_risky_b16 w1 ((w1 ||| 4)) S
theorem b_X12_risky {g : q_G} {S0 : kp_S} {w1 : Int64} {S : kp_S} {post : Int64 → kp_S → Prop} {y : Int64} {v : q_V} (R : q_Gd 2 g S0 S)  (h : fX12_risky w1 (q_w g S) = some (y, v)) (kk : ∀ S, q_Gd 2 g S0 S → v = q_w g S → post y S) : wX12_risky (g 0 12 0) w1 S post := by
  unfold wX12_risky; unfold fX12_risky at h
  refine ⟨fun c => ?_, fun c => ?_⟩
  · replace h := q_ifp h c
    exact b_X12_risky_b16 R h kk
  · replace h := q_ifn h c
    exact b_X12_risky_b16 R h kk
def fX12_tell_b36 (x1 : Int32) (Sn : q_V) : Option (Int32 × q_V) :=
  if (x1) < 0 ∨ 3002 ≤ (x1).toNatClampNeg then none else
  q_bd (fX12_know ((q_b Sn 2406 x1.toNatClampNeg)) Sn) (fun y1003 T1002 =>
  some (y1003, T1002))
theorem b_X12_tell_b36 {g : q_G} {S0 : kp_S} {x1 : Int32} {Sn : kp_S} {post : Int32 → kp_S → Prop} {y : Int32} {v : q_V} (R : q_Gd 2 g S0 Sn)  (h : fX12_tell_b36 x1 (q_w g Sn) = some (y, v)) (kk : ∀ S, q_Gd 2 g S0 S → v = q_w g S → post y S) : wX12_tell_b36 (g 0 12 0) x1 Sn post := by
  unfold wX12_tell_b36; unfold fX12_tell_b36 at h
  refine ⟨_, q_p2406 R, ?_⟩
  rw [q_l2406 R]
  obtain ⟨hi, h⟩ := q_in h
  refine ⟨hi, ?_⟩
  obtain ⟨y1003, v1, h1, h⟩ := q_bdi h
  refine b_X12_know R h1 (fun T1002 R q => ?_)
  subst q
  exact q_fin h kk R
def fX12_tell_b20 (x1 : Int32) (Sn : q_V) : Option (Int32 × q_V) :=
  if (q_i Sn 2442) < 24 then
  fX12_tell_b36 x1 Sn
  else
  q_bv (fX12_bad 8 x1 Sn) (fun T2001 =>
  fX12_tell_b36 x1 T2001)
theorem b_X12_tell_b20 {g : q_G} {S0 : kp_S} {x1 : Int32} {Sn : kp_S} {post : Int32 → kp_S → Prop} {y : Int32} {v : q_V} (R : q_Gd 2 g S0 Sn)  (h : fX12_tell_b20 x1 (q_w g Sn) = some (y, v)) (kk : ∀ S, q_Gd 2 g S0 S → v = q_w g S → post y S) : wX12_tell_b20 (g 0 12 0) x1 Sn post := by
  unfold wX12_tell_b20; unfold fX12_tell_b20 at h
  refine ⟨fun c => ?_, fun c => ?_⟩
  · replace h := q_ifp h c
    exact b_X12_tell_b36 R h kk
  · replace h := q_ifn h c
    obtain ⟨v1, h1, h⟩ := q_bvi h
    refine b_X12_bad R h1 (fun T2001 R q => ?_)
    subst q
    exact b_X12_tell_b36 R h kk
def fX12_tell (x1 : Int32) (S : q_V) : Option (Int32 × q_V) :=
  if (x1) < 0 ∨ 3002 ≤ (x1).toNatClampNeg then none else
  q_bd (fX12_known ((q_b S 2406 x1.toNatClampNeg)) S) (fun y3 T2 =>
  if y3 = (- 1) then
  fX12_tell_b20 x1 T2
  else
  q_bv (fX12_bad 4 x1 T2) (fun T4 =>
  fX12_tell_b20 x1 T4))
theorem b_X12_tell {g : q_G} {S0 : kp_S} {x1 : Int32} {S : kp_S} {post : Int32 → kp_S → Prop} {y : Int32} {v : q_V} (R : q_Gd 2 g S0 S)  (h : fX12_tell x1 (q_w g S) = some (y, v)) (kk : ∀ S, q_Gd 2 g S0 S → v = q_w g S → post y S) : wX12_tell (g 0 12 0) x1 S post := by
  unfold wX12_tell; unfold fX12_tell at h
  refine ⟨_, q_p2406 R, ?_⟩
  rw [q_l2406 R]
  obtain ⟨hi, h⟩ := q_in h
  refine ⟨hi, ?_⟩
  obtain ⟨y3, v1, h1, h⟩ := q_bdi h
  refine b_X12_known R h1 (fun T2 R q => ?_)
  subst q
  refine ⟨fun c => ?_, fun c => ?_⟩
  · replace h := q_ifp h c
    exact b_X12_tell_b20 R h kk
  · replace h := q_ifn h c
    obtain ⟨v1, h1, h⟩ := q_bvi h
    refine b_X12_bad R h1 (fun T4 R q => ?_)
    subst q
    exact b_X12_tell_b20 R h kk
def fX12_describe (x1 : Int32) (S : q_V) : Option (Int32 × q_V) :=
  q_lt ((q_i S 2424) : Int32) (fun y1 =>
  q_lt (q_si S 2424 (((q_i S 2424) + 1))) (fun T2 =>
  if (x1) < 0 ∨ 3002 ≤ (x1).toNatClampNeg then none else
  if (y1) < 0 ∨ 640 ≤ (y1).toNatClampNeg then none else
  q_lt (q_sa T2 2421 ((upd (q_a T2 2421) (y1.toNatClampNeg) (q_a T2 2405 x1.toNatClampNeg)))) (fun T5 =>
  if (y1) < 0 ∨ 640 ≤ (y1).toNatClampNeg then none else
  q_lt (q_sa T5 2419 ((upd (q_a T5 2419) (y1.toNatClampNeg) (- 1)))) (fun T7 =>
  if (y1) < 0 ∨ 640 ≤ (y1).toNatClampNeg then none else
  q_lt (q_sa T7 2423 ((upd (q_a T7 2423) (y1.toNatClampNeg) (- 1)))) (fun T9 =>
  if (y1) < 0 ∨ 640 ≤ (y1).toNatClampNeg then none else
  q_lt (q_sa T9 2422 ((upd (q_a T9 2422) (y1.toNatClampNeg) (- 1)))) (fun T11 =>
  some (y1, T11)))))))
theorem b_X12_describe {g : q_G} {S0 : kp_S} {x1 : Int32} {S : kp_S} {post : Int32 → kp_S → Prop} {y : Int32} {v : q_V} (R : q_Gd 2 g S0 S)  (h : fX12_describe x1 (q_w g S) = some (y, v)) (kk : ∀ S, q_Gd 2 g S0 S → v = q_w g S → post y S) : wX12_describe (g 0 12 0) x1 S post := by
  unfold wX12_describe; unfold fX12_describe at h
  intro y1 q
  replace h := q_ltw h q
  intro T2 q
  obtain ⟨R, q⟩ := q_wI R q rfl rfl
  replace h := q_ltw h q
  refine ⟨_, q_p2421 R, ?_⟩
  refine ⟨_, q_p2405 R, ?_⟩
  rw [q_l2405 R]
  obtain ⟨hi, h⟩ := q_in h
  refine ⟨hi, ?_⟩
  rw [q_l2421 R]
  obtain ⟨hi, h⟩ := q_in h
  refine ⟨hi, ?_⟩
  intro T5 q
  obtain ⟨R, q⟩ := q_wA R q rfl
  replace h := q_ltw h q
  refine ⟨_, q_p2419 R, ?_⟩
  rw [q_l2419 R]
  obtain ⟨hi, h⟩ := q_in h
  refine ⟨hi, ?_⟩
  intro T7 q
  obtain ⟨R, q⟩ := q_wA R q rfl
  replace h := q_ltw h q
  refine ⟨_, q_p2423 R, ?_⟩
  rw [q_l2423 R]
  obtain ⟨hi, h⟩ := q_in h
  refine ⟨hi, ?_⟩
  intro T9 q
  obtain ⟨R, q⟩ := q_wA R q rfl
  replace h := q_ltw h q
  refine ⟨_, q_p2422 R, ?_⟩
  rw [q_l2422 R]
  obtain ⟨hi, h⟩ := q_in h
  refine ⟨hi, ?_⟩
  intro T11 q
  obtain ⟨R, q⟩ := q_wA R q rfl
  replace h := q_ltw h q
  exact q_fin h kk R
def fX12_isPlain_b78 (x1 : Int32) (xt0 : Int32) (Sn : q_V) : Option (Int32 × q_V) :=
  if ¬ (xt0 = 0 ∨ xt0 = 1) then none else
  some (xt0, Sn)
theorem b_X12_isPlain_b78 {g : q_G} {S0 : kp_S} {x1 : Int32} {xt0 : Int32} {Sn : kp_S} {post : Int32 → kp_S → Prop} {y : Int32} {v : q_V} (R : q_Gd 2 g S0 Sn)  (h : fX12_isPlain_b78 x1 xt0 (q_w g Sn) = some (y, v)) (kk : ∀ S, q_Gd 2 g S0 S → v = q_w g S → post y S) : wX12_isPlain_b78 (g 0 12 0) x1 xt0 Sn post := by
  unfold wX12_isPlain_b78; unfold fX12_isPlain_b78 at h
  obtain ⟨hi, h⟩ := q_in h
  refine ⟨Classical.not_not.mp hi, ?_⟩
  exact q_fin h kk R
def fX12_isPlain_b77 (x1 : Int32) (Sn : q_V) : Option (Int32 × q_V) :=
  fX12_isPlain_b78 x1 0 Sn
theorem b_X12_isPlain_b77 {g : q_G} {S0 : kp_S} {x1 : Int32} {Sn : kp_S} {post : Int32 → kp_S → Prop} {y : Int32} {v : q_V} (R : q_Gd 2 g S0 Sn)  (h : fX12_isPlain_b77 x1 (q_w g Sn) = some (y, v)) (kk : ∀ S, q_Gd 2 g S0 S → v = q_w g S → post y S) : wX12_isPlain_b77 (g 0 12 0) x1 Sn post := by
  unfold wX12_isPlain_b77; unfold fX12_isPlain_b77 at h
  exact b_X12_isPlain_b78 R h kk
def fX12_isPlain_b47 (x1 : Int32) (xn2 : Int32) (xn3 : Int32) (Sn : q_V) : Option (Int32 × q_V) :=
  if xn2 = xn3 then
  if (xn2) < 0 ∨ 3002 ≤ (xn2).toNatClampNeg then none else
  if (q_a Sn 2404 xn2.toNatClampNeg) = 3 then
  if (xn2) < 0 ∨ 3002 ≤ (xn2).toNatClampNeg then none else
  if (lg_cmp (q_b Sn 2406 xn2.toNatClampNeg) 0) ≤ 0 then
  fX12_isPlain_b77 x1 Sn
  else
  fX12_isPlain_b78 x1 1 Sn
  else
  fX12_isPlain_b77 x1 Sn
  else
  fX12_isPlain_b77 x1 Sn
theorem b_X12_isPlain_b47 {g : q_G} {S0 : kp_S} {x1 : Int32} {xn2 : Int32} {xn3 : Int32} {Sn : kp_S} {post : Int32 → kp_S → Prop} {y : Int32} {v : q_V} (R : q_Gd 2 g S0 Sn)  (h : fX12_isPlain_b47 x1 xn2 xn3 (q_w g Sn) = some (y, v)) (kk : ∀ S, q_Gd 2 g S0 S → v = q_w g S → post y S) : wX12_isPlain_b47 (g 0 12 0) x1 xn2 xn3 Sn post := by
  unfold wX12_isPlain_b47; unfold fX12_isPlain_b47 at h
  refine ⟨fun c => ?_, fun c => ?_⟩
  · replace h := q_ifn h c
    exact b_X12_isPlain_b77 R h kk
  · replace h := q_ifp h c
    refine ⟨_, q_p2404 R, ?_⟩
    rw [q_l2404 R]
    obtain ⟨hi, h⟩ := q_in h
    refine ⟨hi, ?_⟩
    refine ⟨fun c => ?_, fun c => ?_⟩
    · replace h := q_ifn h c
      exact b_X12_isPlain_b77 R h kk
    · replace h := q_ifp h c
      refine ⟨_, q_p2406 R, ?_⟩
      rw [q_l2406 R]
      obtain ⟨hi, h⟩ := q_in h
      refine ⟨hi, ?_⟩
      refine ⟨fun c => ?_, fun c => ?_⟩
      · replace h := q_ifp h c
        exact b_X12_isPlain_b77 R h kk
      · replace h := q_ifn h c
        exact b_X12_isPlain_b78 R h kk
def fX12_isPlain_L9 (x1 : Int32) : Nat → Int32 → Int32 → q_V → Option (Int32 × q_V)
  | 0, _, _, _ => none
  | n + 1, xn2, xn3, Sn =>
  if xn3 ≤ xn2 then
  fX12_isPlain_b47 x1 xn2 xn3 Sn
  else
  if (xn2) < 0 ∨ 3002 ≤ (xn2).toNatClampNeg then none else
  if (q_a Sn 2404 xn2.toNatClampNeg) = 140 then
  if (xn3) < 0 ∨ 3002 ≤ (xn3).toNatClampNeg then none else
  if (q_a Sn 2404 xn3.toNatClampNeg) = 141 then
  q_lt (xn2 + 1 : Int32) (fun y4002 =>
  q_lt (xn3 + (- 1) : Int32) (fun y4003 =>
  fX12_isPlain_L9 x1 n y4002 y4003 Sn))
  else
  fX12_isPlain_b47 x1 xn2 xn3 Sn
  else
  fX12_isPlain_b47 x1 xn2 xn3 Sn
theorem b_X12_isPlain_L9 {g : q_G} {S0 : kp_S} {x1 : Int32} {post : Int32 → kp_S → Prop} {y : Int32} {v : q_V}  (kk : ∀ S, q_Gd 2 g S0 S → v = q_w g S → post y S) : ∀ (n : Nat) (xn2 : Int32) (xn3 : Int32) (Sn : kp_S), q_Gd 2 g S0 Sn → fX12_isPlain_L9 x1 n xn2 xn3 (q_w g Sn) = some (y, v) → wX12_isPlain_L9 (g 0 12 0) x1 post n xn2 xn3 Sn := by
  intro n
  induction n with
  | zero => intro xn2 xn3 Sn _ h; cases h
  | succ n ih =>
    intro xn2 xn3 Sn R h
    unfold wX12_isPlain_L9; unfold fX12_isPlain_L9 at h
    refine ⟨fun c => ?_, fun c => ?_⟩
    · replace h := q_ifp h c
      exact b_X12_isPlain_b47 R h kk
    · replace h := q_ifn h c
      refine ⟨_, q_p2404 R, ?_⟩
      rw [q_l2404 R]
      obtain ⟨hi, h⟩ := q_in h
      refine ⟨hi, ?_⟩
      refine ⟨fun c => ?_, fun c => ?_⟩
      · replace h := q_ifn h c
        exact b_X12_isPlain_b47 R h kk
      · replace h := q_ifp h c
        obtain ⟨hi, h⟩ := q_in h
        refine ⟨hi, ?_⟩
        refine ⟨fun c => ?_, fun c => ?_⟩
        · replace h := q_ifn h c
          exact b_X12_isPlain_b47 R h kk
        · replace h := q_ifp h c
          intro y4002 q
          replace h := q_ltw h q
          intro y4003 q
          replace h := q_ltw h q
          exact ih _ _ _ R h
def fX12_isPlain (x1 : Int32) (S : q_V) : Option (Int32 × q_V) :=
  q_lt (((q_i S 2410) - 1) : Int32) (fun y1 =>
  fX12_isPlain_L9 x1 q_N x1 y1 S)
theorem b_X12_isPlain {g : q_G} {S0 : kp_S} {x1 : Int32} {S : kp_S} {post : Int32 → kp_S → Prop} {y : Int32} {v : q_V} (R : q_Gd 2 g S0 S)  (h : fX12_isPlain x1 (q_w g S) = some (y, v)) (kk : ∀ S, q_Gd 2 g S0 S → v = q_w g S → post y S) : wX12_isPlain (g 0 12 0) x1 S post := by
  unfold wX12_isPlain; unfold fX12_isPlain at h
  intro y1 q
  replace h := q_ltw h q
  exact ⟨q_N, b_X12_isPlain_L9 kk q_N _ _ _ R h⟩
def fX12_keep_L155  : Nat → Int32 → q_V → Option q_V
  | 0, _, _ => none
  | n + 1, xn1, Sn =>
  if (q_i Sn 2462) ≤ xn1 then
  some Sn
  else
  if (xn1) < 0 ∨ 320 ≤ (xn1).toNatClampNeg then none else
  if (xn1) < 0 ∨ 30 ≤ (xn1).toNatClampNeg then none else
  q_lt (q_sa Sn 2457 ((upd (q_a Sn 2457) (xn1.toNatClampNeg) (q_a Sn 2430 xn1.toNatClampNeg)))) (fun T1003 =>
  if (xn1) < 0 ∨ 320 ≤ (xn1).toNatClampNeg then none else
  if (xn1) < 0 ∨ 30 ≤ (xn1).toNatClampNeg then none else
  q_lt (q_sa T1003 2458 ((upd (q_a T1003 2458) (xn1.toNatClampNeg) (q_a T1003 2428 xn1.toNatClampNeg)))) (fun T1006 =>
  if (xn1) < 0 ∨ 320 ≤ (xn1).toNatClampNeg then none else
  if (xn1) < 0 ∨ 30 ≤ (xn1).toNatClampNeg then none else
  q_lt (q_sa T1006 2459 ((upd (q_a T1006 2459) (xn1.toNatClampNeg) (q_a T1006 2429 xn1.toNatClampNeg)))) (fun T1009 =>
  if (xn1) < 0 ∨ 320 ≤ (xn1).toNatClampNeg then none else
  if (xn1) < 0 ∨ 30 ≤ (xn1).toNatClampNeg then none else
  q_lt (q_sa T1009 2460 ((upd (q_a T1009 2460) (xn1.toNatClampNeg) (q_a T1009 2431 xn1.toNatClampNeg)))) (fun T1012 =>
  if (xn1) < 0 ∨ 320 ≤ (xn1).toNatClampNeg then none else
  if (xn1) < 0 ∨ 30 ≤ (xn1).toNatClampNeg then none else
  q_lt (q_sa T1012 2461 ((upd (q_a T1012 2461) (xn1.toNatClampNeg) (q_a T1012 2432 xn1.toNatClampNeg)))) (fun T1015 =>
  q_lt (xn1 + 1 : Int32) (fun y1016 =>
  fX12_keep_L155 n y1016 T1015))))))
theorem b_X12_keep_L155 {g : q_G} {S0 : kp_S} {post : kp_S → Prop} {v : q_V}  (kk : ∀ S, q_Gd 2 g S0 S → v = q_w g S → post S) : ∀ (n : Nat) (xn1 : Int32) (Sn : kp_S), q_Gd 2 g S0 Sn → fX12_keep_L155  n xn1 (q_w g Sn) = some v → wX12_keep_L155 (g 0 12 0) post n xn1 Sn := by
  intro n
  induction n with
  | zero => intro xn1 Sn _ h; cases h
  | succ n ih =>
    intro xn1 Sn R h
    unfold wX12_keep_L155; unfold fX12_keep_L155 at h
    refine ⟨fun c => ?_, fun c => ?_⟩
    · replace h := q_ifp h c
      exact q_finv h kk R
    · replace h := q_ifn h c
      refine ⟨_, q_p2457 R, ?_⟩
      refine ⟨_, q_p2430 R, ?_⟩
      rw [q_l2430 R]
      obtain ⟨hi, h⟩ := q_in h
      refine ⟨hi, ?_⟩
      rw [q_l2457 R]
      obtain ⟨hi, h⟩ := q_in h
      refine ⟨hi, ?_⟩
      intro T1003 q
      obtain ⟨R, q⟩ := q_wA R q rfl
      replace h := q_ltw h q
      refine ⟨_, q_p2458 R, ?_⟩
      refine ⟨_, q_p2428 R, ?_⟩
      rw [q_l2428 R]
      obtain ⟨hi, h⟩ := q_in h
      refine ⟨hi, ?_⟩
      rw [q_l2458 R]
      obtain ⟨hi, h⟩ := q_in h
      refine ⟨hi, ?_⟩
      intro T1006 q
      obtain ⟨R, q⟩ := q_wA R q rfl
      replace h := q_ltw h q
      refine ⟨_, q_p2459 R, ?_⟩
      refine ⟨_, q_p2429 R, ?_⟩
      rw [q_l2429 R]
      obtain ⟨hi, h⟩ := q_in h
      refine ⟨hi, ?_⟩
      rw [q_l2459 R]
      obtain ⟨hi, h⟩ := q_in h
      refine ⟨hi, ?_⟩
      intro T1009 q
      obtain ⟨R, q⟩ := q_wA R q rfl
      replace h := q_ltw h q
      refine ⟨_, q_p2460 R, ?_⟩
      refine ⟨_, q_p2431 R, ?_⟩
      rw [q_l2431 R]
      obtain ⟨hi, h⟩ := q_in h
      refine ⟨hi, ?_⟩
      rw [q_l2460 R]
      obtain ⟨hi, h⟩ := q_in h
      refine ⟨hi, ?_⟩
      intro T1012 q
      obtain ⟨R, q⟩ := q_wA R q rfl
      replace h := q_ltw h q
      refine ⟨_, q_p2461 R, ?_⟩
      refine ⟨_, q_p2432 R, ?_⟩
      rw [q_l2432 R]
      obtain ⟨hi, h⟩ := q_in h
      refine ⟨hi, ?_⟩
      rw [q_l2461 R]
      obtain ⟨hi, h⟩ := q_in h
      refine ⟨hi, ?_⟩
      intro T1015 q
      obtain ⟨R, q⟩ := q_wA R q rfl
      replace h := q_ltw h q
      intro y1016 q
      replace h := q_ltw h q
      exact ih _ _ R h
def fX12_keep_L59  : Nat → Int32 → q_V → Option q_V
  | 0, _, _ => none
  | n + 1, xn1, Sn =>
  if (q_i Sn 2424) ≤ xn1 then
  q_lt (q_si Sn 2462 ((q_i Sn 2433))) (fun T2001 =>
  fX12_keep_L155 q_N 0 T2001)
  else
  if (xn1) < 0 ∨ 640 ≤ (xn1).toNatClampNeg then none else
  if (xn1) < 0 ∨ 640 ≤ (xn1).toNatClampNeg then none else
  q_lt (q_sa Sn 2451 ((upd (q_a Sn 2451) (xn1.toNatClampNeg) (q_a Sn 2418 xn1.toNatClampNeg)))) (fun T2004 =>
  if (xn1) < 0 ∨ 640 ≤ (xn1).toNatClampNeg then none else
  if (xn1) < 0 ∨ 640 ≤ (xn1).toNatClampNeg then none else
  q_lt (q_sa T2004 2452 ((upd (q_a T2004 2452) (xn1.toNatClampNeg) (q_a T2004 2419 xn1.toNatClampNeg)))) (fun T2007 =>
  if (xn1) < 0 ∨ 640 ≤ (xn1).toNatClampNeg then none else
  if (xn1) < 0 ∨ 640 ≤ (xn1).toNatClampNeg then none else
  q_lt (q_sa T2007 2453 ((upd (q_a T2007 2453) (xn1.toNatClampNeg) (q_a T2007 2420 xn1.toNatClampNeg)))) (fun T2010 =>
  if (xn1) < 0 ∨ 640 ≤ (xn1).toNatClampNeg then none else
  if (xn1) < 0 ∨ 640 ≤ (xn1).toNatClampNeg then none else
  q_lt (q_sa T2010 2454 ((upd (q_a T2010 2454) (xn1.toNatClampNeg) (q_a T2010 2421 xn1.toNatClampNeg)))) (fun T2013 =>
  if (xn1) < 0 ∨ 640 ≤ (xn1).toNatClampNeg then none else
  if (xn1) < 0 ∨ 640 ≤ (xn1).toNatClampNeg then none else
  q_lt (q_sa T2013 2455 ((upd (q_a T2013 2455) (xn1.toNatClampNeg) (q_a T2013 2422 xn1.toNatClampNeg)))) (fun T2016 =>
  if (xn1) < 0 ∨ 640 ≤ (xn1).toNatClampNeg then none else
  if (xn1) < 0 ∨ 640 ≤ (xn1).toNatClampNeg then none else
  q_lt (q_sa T2016 2456 ((upd (q_a T2016 2456) (xn1.toNatClampNeg) (q_a T2016 2423 xn1.toNatClampNeg)))) (fun T2019 =>
  q_lt (xn1 + 1 : Int32) (fun y2020 =>
  fX12_keep_L59 n y2020 T2019)))))))
theorem b_X12_keep_L59 {g : q_G} {S0 : kp_S} {post : kp_S → Prop} {v : q_V}  (kk : ∀ S, q_Gd 2 g S0 S → v = q_w g S → post S) : ∀ (n : Nat) (xn1 : Int32) (Sn : kp_S), q_Gd 2 g S0 Sn → fX12_keep_L59  n xn1 (q_w g Sn) = some v → wX12_keep_L59 (g 0 12 0) post n xn1 Sn := by
  intro n
  induction n with
  | zero => intro xn1 Sn _ h; cases h
  | succ n ih =>
    intro xn1 Sn R h
    unfold wX12_keep_L59; unfold fX12_keep_L59 at h
    refine ⟨fun c => ?_, fun c => ?_⟩
    · replace h := q_ifp h c
      intro T2001 q
      obtain ⟨R, q⟩ := q_wI R q rfl rfl
      replace h := q_ltw h q
      exact ⟨q_N, b_X12_keep_L155 kk q_N _ _ R h⟩
    · replace h := q_ifn h c
      refine ⟨_, q_p2451 R, ?_⟩
      refine ⟨_, q_p2418 R, ?_⟩
      rw [q_l2418 R]
      obtain ⟨hi, h⟩ := q_in h
      refine ⟨hi, ?_⟩
      rw [q_l2451 R]
      obtain ⟨hi, h⟩ := q_in h
      refine ⟨hi, ?_⟩
      intro T2004 q
      obtain ⟨R, q⟩ := q_wA R q rfl
      replace h := q_ltw h q
      refine ⟨_, q_p2452 R, ?_⟩
      refine ⟨_, q_p2419 R, ?_⟩
      rw [q_l2419 R]
      obtain ⟨hi, h⟩ := q_in h
      refine ⟨hi, ?_⟩
      rw [q_l2452 R]
      obtain ⟨hi, h⟩ := q_in h
      refine ⟨hi, ?_⟩
      intro T2007 q
      obtain ⟨R, q⟩ := q_wA R q rfl
      replace h := q_ltw h q
      refine ⟨_, q_p2453 R, ?_⟩
      refine ⟨_, q_p2420 R, ?_⟩
      rw [q_l2420 R]
      obtain ⟨hi, h⟩ := q_in h
      refine ⟨hi, ?_⟩
      rw [q_l2453 R]
      obtain ⟨hi, h⟩ := q_in h
      refine ⟨hi, ?_⟩
      intro T2010 q
      obtain ⟨R, q⟩ := q_wA R q rfl
      replace h := q_ltw h q
      refine ⟨_, q_p2454 R, ?_⟩
      refine ⟨_, q_p2421 R, ?_⟩
      rw [q_l2421 R]
      obtain ⟨hi, h⟩ := q_in h
      refine ⟨hi, ?_⟩
      rw [q_l2454 R]
      obtain ⟨hi, h⟩ := q_in h
      refine ⟨hi, ?_⟩
      intro T2013 q
      obtain ⟨R, q⟩ := q_wA R q rfl
      replace h := q_ltw h q
      refine ⟨_, q_p2455 R, ?_⟩
      refine ⟨_, q_p2422 R, ?_⟩
      rw [q_l2422 R]
      obtain ⟨hi, h⟩ := q_in h
      refine ⟨hi, ?_⟩
      rw [q_l2455 R]
      obtain ⟨hi, h⟩ := q_in h
      refine ⟨hi, ?_⟩
      intro T2016 q
      obtain ⟨R, q⟩ := q_wA R q rfl
      replace h := q_ltw h q
      refine ⟨_, q_p2456 R, ?_⟩
      refine ⟨_, q_p2423 R, ?_⟩
      rw [q_l2423 R]
      obtain ⟨hi, h⟩ := q_in h
      refine ⟨hi, ?_⟩
      rw [q_l2456 R]
      obtain ⟨hi, h⟩ := q_in h
      refine ⟨hi, ?_⟩
      intro T2019 q
      obtain ⟨R, q⟩ := q_wA R q rfl
      replace h := q_ltw h q
      intro y2020 q
      replace h := q_ltw h q
      exact ih _ _ R h
def fX12_keep_L7  : Nat → Int32 → q_V → Option q_V
  | 0, _, _ => none
  | n + 1, xn1, Sn =>
  if (q_i Sn 2417) ≤ xn1 then
  fX12_keep_L59 q_N 0 Sn
  else
  if (xn1) < 0 ∨ 4000 ≤ (xn1).toNatClampNeg then none else
  if (xn1) < 0 ∨ 4000 ≤ (xn1).toNatClampNeg then none else
  q_lt (q_sa Sn 2448 ((upd (q_a Sn 2448) (xn1.toNatClampNeg) (q_a Sn 2414 xn1.toNatClampNeg)))) (fun T3003 =>
  if (xn1) < 0 ∨ 4000 ≤ (xn1).toNatClampNeg then none else
  if (xn1) < 0 ∨ 4000 ≤ (xn1).toNatClampNeg then none else
  q_lt (q_sa T3003 2449 ((upd (q_a T3003 2449) (xn1.toNatClampNeg) (q_a T3003 2415 xn1.toNatClampNeg)))) (fun T3006 =>
  if (xn1) < 0 ∨ 4000 ≤ (xn1).toNatClampNeg then none else
  if (xn1) < 0 ∨ 4000 ≤ (xn1).toNatClampNeg then none else
  q_lt (q_sa T3006 2450 ((upd (q_a T3006 2450) (xn1.toNatClampNeg) (q_a T3006 2416 xn1.toNatClampNeg)))) (fun T3009 =>
  q_lt (xn1 + 1 : Int32) (fun y3010 =>
  fX12_keep_L7 n y3010 T3009))))
theorem b_X12_keep_L7 {g : q_G} {S0 : kp_S} {post : kp_S → Prop} {v : q_V}  (kk : ∀ S, q_Gd 2 g S0 S → v = q_w g S → post S) : ∀ (n : Nat) (xn1 : Int32) (Sn : kp_S), q_Gd 2 g S0 Sn → fX12_keep_L7  n xn1 (q_w g Sn) = some v → wX12_keep_L7 (g 0 12 0) post n xn1 Sn := by
  intro n
  induction n with
  | zero => intro xn1 Sn _ h; cases h
  | succ n ih =>
    intro xn1 Sn R h
    unfold wX12_keep_L7; unfold fX12_keep_L7 at h
    refine ⟨fun c => ?_, fun c => ?_⟩
    · replace h := q_ifp h c
      exact ⟨q_N, b_X12_keep_L59 kk q_N _ _ R h⟩
    · replace h := q_ifn h c
      refine ⟨_, q_p2448 R, ?_⟩
      refine ⟨_, q_p2414 R, ?_⟩
      rw [q_l2414 R]
      obtain ⟨hi, h⟩ := q_in h
      refine ⟨hi, ?_⟩
      rw [q_l2448 R]
      obtain ⟨hi, h⟩ := q_in h
      refine ⟨hi, ?_⟩
      intro T3003 q
      obtain ⟨R, q⟩ := q_wA R q rfl
      replace h := q_ltw h q
      refine ⟨_, q_p2449 R, ?_⟩
      refine ⟨_, q_p2415 R, ?_⟩
      rw [q_l2415 R]
      obtain ⟨hi, h⟩ := q_in h
      refine ⟨hi, ?_⟩
      rw [q_l2449 R]
      obtain ⟨hi, h⟩ := q_in h
      refine ⟨hi, ?_⟩
      intro T3006 q
      obtain ⟨R, q⟩ := q_wA R q rfl
      replace h := q_ltw h q
      refine ⟨_, q_p2450 R, ?_⟩
      refine ⟨_, q_p2416 R, ?_⟩
      rw [q_l2416 R]
      obtain ⟨hi, h⟩ := q_in h
      refine ⟨hi, ?_⟩
      rw [q_l2450 R]
      obtain ⟨hi, h⟩ := q_in h
      refine ⟨hi, ?_⟩
      intro T3009 q
      obtain ⟨R, q⟩ := q_wA R q rfl
      replace h := q_ltw h q
      intro y3010 q
      replace h := q_ltw h q
      exact ih _ _ R h
def fX12_keep (S : q_V) : Option q_V :=
  q_lt (q_si S 2447 1) (fun T1 =>
  fX12_keep_L7 q_N 0 T1)
theorem b_X12_keep {g : q_G} {S0 : kp_S} {S : kp_S} {post : kp_S → Prop} {v : q_V} (R : q_Gd 2 g S0 S)  (h : fX12_keep (q_w g S) = some v) (kk : ∀ S, q_Gd 2 g S0 S → v = q_w g S → post S) : wX12_keep (g 0 12 0) S post := by
  unfold wX12_keep; unfold fX12_keep at h
  intro T1 q
  obtain ⟨R, q⟩ := q_wI R q rfl rfl
  replace h := q_ltw h q
  exact ⟨q_N, b_X12_keep_L7 kk q_N _ _ R h⟩
def fX12_fault_b29 (x1 : Int32) (xt0 : Int32) (Sn : q_V) : Option (Int32 × q_V) :=
  some (xt0, Sn)
theorem b_X12_fault_b29 {g : q_G} {S0 : kp_S} {x1 : Int32} {xt0 : Int32} {Sn : kp_S} {post : Int32 → kp_S → Prop} {y : Int32} {v : q_V} (R : q_Gd 2 g S0 Sn)  (h : fX12_fault_b29 x1 xt0 (q_w g Sn) = some (y, v)) (kk : ∀ S, q_Gd 2 g S0 S → v = q_w g S → post y S) : wX12_fault_b29 (g 0 12 0) x1 xt0 Sn post := by
  unfold wX12_fault_b29; unfold fX12_fault_b29 at h
  exact q_fin h kk R
def fX12_fault (x1 : Int32) (S : q_V) : Option (Int32 × q_V) :=
  q_lt (q_si S 2400 0) (fun T1 =>
  if x1 = 0 then
  fX12_fault_b29 x1 ((q_i T1 2408)) T1
  else
  if x1 = 1 then
  fX12_fault_b29 x1 ((q_i T1 2409)) T1
  else
  fX12_fault_b29 x1 ((- 1)) T1)
theorem b_X12_fault {g : q_G} {S0 : kp_S} {x1 : Int32} {S : kp_S} {post : Int32 → kp_S → Prop} {y : Int32} {v : q_V} (R : q_Gd 2 g S0 S)  (h : fX12_fault x1 (q_w g S) = some (y, v)) (kk : ∀ S, q_Gd 2 g S0 S → v = q_w g S → post y S) : wX12_fault (g 0 12 0) x1 S post := by
  unfold wX12_fault; unfold fX12_fault at h
  intro T1 q
  obtain ⟨R, q⟩ := q_wI R q rfl rfl
  replace h := q_ltw h q
  refine ⟨fun c => ?_, fun c => ?_⟩
  · replace h := q_ifn h c
    refine ⟨fun c => ?_, fun c => ?_⟩
    · replace h := q_ifn h c
      exact b_X12_fault_b29 R h kk
    · replace h := q_ifp h c
      exact b_X12_fault_b29 R h kk
  · replace h := q_ifp h c
    exact b_X12_fault_b29 R h kk
def fX12_duty__b31 (x1 : Int32) (x2 : Int32) (xt0 : Int32) (Sn : q_V) : Option (Int32 × q_V) :=
  some (xt0, Sn)
theorem b_X12_duty__b31 {g : q_G} {S0 : kp_S} {x1 : Int32} {x2 : Int32} {xt0 : Int32} {Sn : kp_S} {post : Int32 → kp_S → Prop} {y : Int32} {v : q_V} (R : q_Gd 2 g S0 Sn)  (h : fX12_duty__b31 x1 x2 xt0 (q_w g Sn) = some (y, v)) (kk : ∀ S, q_Gd 2 g S0 S → v = q_w g S → post y S) : wX12_duty__b31 (g 0 12 0) x1 x2 xt0 Sn post := by
  unfold wX12_duty__b31; unfold fX12_duty__b31 at h
  exact q_fin h kk R
def fX12_duty__b44 (x1 : Int32) (x2 : Int32) (Sn : q_V) : Option (Int32 × q_V) :=
  some ((- 1), Sn)
theorem b_X12_duty__b44 {g : q_G} {S0 : kp_S} {x1 : Int32} {x2 : Int32} {Sn : kp_S} {post : Int32 → kp_S → Prop} {y : Int32} {v : q_V} (R : q_Gd 2 g S0 Sn)  (h : fX12_duty__b44 x1 x2 (q_w g Sn) = some (y, v)) (kk : ∀ S, q_Gd 2 g S0 S → v = q_w g S → post y S) : wX12_duty__b44 (g 0 12 0) x1 x2 Sn post := by
  unfold wX12_duty__b44; unfold fX12_duty__b44 at h
  exact q_fin h kk R
def fX12_duty__b102 (x1 : Int32) (x2 : Int32) (xt0 : Int32) (Sn : q_V) : Option (Int32 × q_V) :=
  some (xt0, Sn)
theorem b_X12_duty__b102 {g : q_G} {S0 : kp_S} {x1 : Int32} {x2 : Int32} {xt0 : Int32} {Sn : kp_S} {post : Int32 → kp_S → Prop} {y : Int32} {v : q_V} (R : q_Gd 2 g S0 Sn)  (h : fX12_duty__b102 x1 x2 xt0 (q_w g Sn) = some (y, v)) (kk : ∀ S, q_Gd 2 g S0 S → v = q_w g S → post y S) : wX12_duty__b102 (g 0 12 0) x1 x2 xt0 Sn post := by
  unfold wX12_duty__b102; unfold fX12_duty__b102 at h
  exact q_fin h kk R
def fX12_duty_ (x1 : Int32) (x2 : Int32) (S : q_V) : Option (Int32 × q_V) :=
  q_lt (q_si S 2400 0) (fun T1 =>
  if (q_i T1 2447) = 0 then
  some ((- 1), T1)
  else
  if x1 = (- 1) then
  if x2 = 0 then
  fX12_duty__b31 x1 x2 ((q_i T1 2462)) T1
  else
  fX12_duty__b31 x1 x2 ((- 1)) T1
  else
  if x1 < 0 then
  fX12_duty__b44 x1 x2 T1
  else
  if x1 < (q_i T1 2462) then
  if x2 = 0 then
  if (x1) < 0 ∨ 30 ≤ (x1).toNatClampNeg then none else
  fX12_duty__b102 x1 x2 ((q_a T1 2458 x1.toNatClampNeg)) T1
  else
  if x2 = 1 then
  if (x1) < 0 ∨ 30 ≤ (x1).toNatClampNeg then none else
  fX12_duty__b102 x1 x2 ((q_a T1 2459 x1.toNatClampNeg)) T1
  else
  if x2 = 2 then
  if (x1) < 0 ∨ 30 ≤ (x1).toNatClampNeg then none else
  fX12_duty__b102 x1 x2 ((q_a T1 2460 x1.toNatClampNeg)) T1
  else
  if x2 = 3 then
  if (x1) < 0 ∨ 30 ≤ (x1).toNatClampNeg then none else
  fX12_duty__b102 x1 x2 ((q_a T1 2461 x1.toNatClampNeg)) T1
  else
  fX12_duty__b102 x1 x2 ((- 1)) T1
  else
  fX12_duty__b44 x1 x2 T1)
theorem b_X12_duty_ {g : q_G} {S0 : kp_S} {x1 : Int32} {x2 : Int32} {S : kp_S} {post : Int32 → kp_S → Prop} {y : Int32} {v : q_V} (R : q_Gd 2 g S0 S)  (h : fX12_duty_ x1 x2 (q_w g S) = some (y, v)) (kk : ∀ S, q_Gd 2 g S0 S → v = q_w g S → post y S) : wX12_duty_ (g 0 12 0) x1 x2 S post := by
  unfold wX12_duty_; unfold fX12_duty_ at h
  intro T1 q
  obtain ⟨R, q⟩ := q_wI R q rfl rfl
  replace h := q_ltw h q
  refine ⟨fun c => ?_, fun c => ?_⟩
  · replace h := q_ifn h c
    refine ⟨fun c => ?_, fun c => ?_⟩
    · replace h := q_ifn h c
      refine ⟨fun c => ?_, fun c => ?_⟩
      · replace h := q_ifp h c
        exact b_X12_duty__b44 R h kk
      · replace h := q_ifn h c
        refine ⟨fun c => ?_, fun c => ?_⟩
        · replace h := q_ifp h c
          refine ⟨fun c => ?_, fun c => ?_⟩
          · replace h := q_ifn h c
            refine ⟨fun c => ?_, fun c => ?_⟩
            · replace h := q_ifn h c
              refine ⟨fun c => ?_, fun c => ?_⟩
              · replace h := q_ifn h c
                refine ⟨fun c => ?_, fun c => ?_⟩
                · replace h := q_ifn h c
                  exact b_X12_duty__b102 R h kk
                · replace h := q_ifp h c
                  refine ⟨_, q_p2461 R, ?_⟩
                  rw [q_l2461 R]
                  obtain ⟨hi, h⟩ := q_in h
                  refine ⟨hi, ?_⟩
                  exact b_X12_duty__b102 R h kk
              · replace h := q_ifp h c
                refine ⟨_, q_p2460 R, ?_⟩
                rw [q_l2460 R]
                obtain ⟨hi, h⟩ := q_in h
                refine ⟨hi, ?_⟩
                exact b_X12_duty__b102 R h kk
            · replace h := q_ifp h c
              refine ⟨_, q_p2459 R, ?_⟩
              rw [q_l2459 R]
              obtain ⟨hi, h⟩ := q_in h
              refine ⟨hi, ?_⟩
              exact b_X12_duty__b102 R h kk
          · replace h := q_ifp h c
            refine ⟨_, q_p2458 R, ?_⟩
            rw [q_l2458 R]
            obtain ⟨hi, h⟩ := q_in h
            refine ⟨hi, ?_⟩
            exact b_X12_duty__b102 R h kk
        · replace h := q_ifn h c
          exact b_X12_duty__b44 R h kk
    · replace h := q_ifp h c
      refine ⟨fun c => ?_, fun c => ?_⟩
      · replace h := q_ifn h c
        exact b_X12_duty__b31 R h kk
      · replace h := q_ifp h c
        exact b_X12_duty__b31 R h kk
  · replace h := q_ifp h c
    exact q_fin h kk R
def fX12_in_b15 (x0 : Int32) (x1 : Int32) (x2 : Int32) (xt0 : Int32) (Sn : q_V) : Option (Int32 × q_V) :=
  if ¬ (xt0 = 0 ∨ xt0 = 1) then none else
  some (xt0, Sn)
theorem b_X12_in_b15 {g : q_G} {S0 : kp_S} {x0 : Int32} {x1 : Int32} {x2 : Int32} {xt0 : Int32} {Sn : kp_S} {post : Int32 → kp_S → Prop} {y : Int32} {v : q_V} (R : q_Gd 2 g S0 Sn)  (h : fX12_in_b15 x0 x1 x2 xt0 (q_w g Sn) = some (y, v)) (kk : ∀ S, q_Gd 2 g S0 S → v = q_w g S → post y S) : wX12_in_b15 x0 x1 x2 xt0 Sn post := by
  unfold wX12_in_b15; unfold fX12_in_b15 at h
  obtain ⟨hi, h⟩ := q_in h
  refine ⟨Classical.not_not.mp hi, ?_⟩
  exact q_fin h kk R
def fX12_in_b14 (x0 : Int32) (x1 : Int32) (x2 : Int32) (Sn : q_V) : Option (Int32 × q_V) :=
  fX12_in_b15 x0 x1 x2 0 Sn
theorem b_X12_in_b14 {g : q_G} {S0 : kp_S} {x0 : Int32} {x1 : Int32} {x2 : Int32} {Sn : kp_S} {post : Int32 → kp_S → Prop} {y : Int32} {v : q_V} (R : q_Gd 2 g S0 Sn)  (h : fX12_in_b14 x0 x1 x2 (q_w g Sn) = some (y, v)) (kk : ∀ S, q_Gd 2 g S0 S → v = q_w g S → post y S) : wX12_in_b14 x0 x1 x2 Sn post := by
  unfold wX12_in_b14; unfold fX12_in_b14 at h
  exact b_X12_in_b15 R h kk
def fX12_in (x0 : Int32) (x1 : Int32) (x2 : Int32) (S : q_V) : Option (Int32 × q_V) :=
  if x0 < x1 then
  fX12_in_b14 x0 x1 x2 S
  else
  if x2 < x0 then
  fX12_in_b14 x0 x1 x2 S
  else
  fX12_in_b15 x0 x1 x2 1 S
theorem b_X12_in {g : q_G} {S0 : kp_S} {x0 : Int32} {x1 : Int32} {x2 : Int32} {S : kp_S} {post : Int32 → kp_S → Prop} {y : Int32} {v : q_V} (R : q_Gd 2 g S0 S)  (h : fX12_in x0 x1 x2 (q_w g S) = some (y, v)) (kk : ∀ S, q_Gd 2 g S0 S → v = q_w g S → post y S) : wX12_in x0 x1 x2 S post := by
  unfold wX12_in; unfold fX12_in at h
  refine ⟨fun c => ?_, fun c => ?_⟩
  · replace h := q_ifp h c
    exact b_X12_in_b14 R h kk
  · replace h := q_ifn h c
    refine ⟨fun c => ?_, fun c => ?_⟩
    · replace h := q_ifp h c
      exact b_X12_in_b14 R h kk
    · replace h := q_ifn h c
      exact b_X12_in_b15 R h kk
def fX12_fill_b26 (x1 : Int32) (x2 : Int32) (Sn : q_V) : Option (Int32 × q_V) :=
  some (0, Sn)
theorem b_X12_fill_b26 {g : q_G} {S0 : kp_S} {x1 : Int32} {x2 : Int32} {Sn : kp_S} {post : Int32 → kp_S → Prop} {y : Int32} {v : q_V} (R : q_Gd 2 g S0 Sn)  (h : fX12_fill_b26 x1 x2 (q_w g Sn) = some (y, v)) (kk : ∀ S, q_Gd 2 g S0 S → v = q_w g S → post y S) : wX12_fill_b26 (g 0 12 0) x1 x2 Sn post := by
  unfold wX12_fill_b26; unfold fX12_fill_b26 at h
  exact q_fin h kk R
def fX12_fill (x1 : Int32) (x2 : Int32) (S : q_V) : Option (Int32 × q_V) :=
  q_lt (q_si S 2400 0) (fun T1 =>
  q_bd (fX12_in x1 0 6 T1) (fun y3 T2 =>
  if y3 = 0 then
  fX12_fill_b26 x1 x2 T2
  else
  q_bd (fX12_in x2 0 100000 T2) (fun y5 T4 =>
  if y5 = 0 then
  fX12_fill_b26 x1 x2 T4
  else
  if (x1) < 0 ∨ 7 ≤ (x1).toNatClampNeg then none else
  q_lt (q_sa T4 2466 ((upd (q_a T4 2466) (x1.toNatClampNeg) x2))) (fun T7 =>
  some (1, T7)))))
theorem b_X12_fill {g : q_G} {S0 : kp_S} {x1 : Int32} {x2 : Int32} {S : kp_S} {post : Int32 → kp_S → Prop} {y : Int32} {v : q_V} (R : q_Gd 2 g S0 S)  (h : fX12_fill x1 x2 (q_w g S) = some (y, v)) (kk : ∀ S, q_Gd 2 g S0 S → v = q_w g S → post y S) : wX12_fill (g 0 12 0) x1 x2 S post := by
  unfold wX12_fill; unfold fX12_fill at h
  intro T1 q
  obtain ⟨R, q⟩ := q_wI R q rfl rfl
  replace h := q_ltw h q
  obtain ⟨y3, v1, h1, h⟩ := q_bdi h
  refine b_X12_in R h1 (fun T2 R q => ?_)
  subst q
  refine ⟨fun c => ?_, fun c => ?_⟩
  · replace h := q_ifp h c
    exact b_X12_fill_b26 R h kk
  · replace h := q_ifn h c
    obtain ⟨y5, v1, h1, h⟩ := q_bdi h
    refine b_X12_in R h1 (fun T4 R q => ?_)
    subst q
    refine ⟨fun c => ?_, fun c => ?_⟩
    · replace h := q_ifn h c
      refine ⟨_, q_p2466 R, ?_⟩
      rw [q_l2466 R]
      obtain ⟨hi, h⟩ := q_in h
      refine ⟨hi, ?_⟩
      intro T7 q
      obtain ⟨R, q⟩ := q_wA R q rfl
      replace h := q_ltw h q
      exact q_fin h kk R
    · replace h := q_ifp h c
      exact b_X12_fill_b26 R h kk
def fX12_chamber_b49 (x1 : Int32) (x2 : Int32) (Sn : q_V) : Option (Int32 × q_V) :=
  some (0, Sn)
theorem b_X12_chamber_b49 {g : q_G} {S0 : kp_S} {x1 : Int32} {x2 : Int32} {Sn : kp_S} {post : Int32 → kp_S → Prop} {y : Int32} {v : q_V} (R : q_Gd 2 g S0 Sn)  (h : fX12_chamber_b49 x1 x2 (q_w g Sn) = some (y, v)) (kk : ∀ S, q_Gd 2 g S0 S → v = q_w g S → post y S) : wX12_chamber_b49 (g 0 12 0) x1 x2 Sn post := by
  unfold wX12_chamber_b49; unfold fX12_chamber_b49 at h
  exact q_fin h kk R
def fX12_chamber (x1 : Int32) (x2 : Int32) (S : q_V) : Option (Int32 × q_V) :=
  q_lt (q_si S 2400 0) (fun T1 =>
  q_bd (fX12_in x1 0 5 T1) (fun y3 T2 =>
  if y3 = 0 then
  fX12_chamber_b49 x1 x2 T2
  else
  q_bd (fX12_in x2 0 10000 T2) (fun y5 T4 =>
  if y5 = 0 then
  fX12_chamber_b49 x1 x2 T4
  else
  if (2 * x1) < 0 ∨ 12 ≤ (2 * x1).toNatClampNeg then none else
  if (q_a T4 2464 (2 * x1).toNatClampNeg) = 0 then
  if ((2 * x1) + 1) < 0 ∨ 12 ≤ ((2 * x1) + 1).toNatClampNeg then none else
  if (q_a T4 2464 ((2 * x1) + 1).toNatClampNeg) = 0 then
  if (x1) < 0 ∨ 6 ≤ (x1).toNatClampNeg then none else
  q_lt (q_sa T4 2463 ((upd (q_a T4 2463) (x1.toNatClampNeg) x2))) (fun T8 =>
  some (1, T8))
  else
  fX12_chamber_b49 x1 x2 T4
  else
  fX12_chamber_b49 x1 x2 T4)))
theorem b_X12_chamber {g : q_G} {S0 : kp_S} {x1 : Int32} {x2 : Int32} {S : kp_S} {post : Int32 → kp_S → Prop} {y : Int32} {v : q_V} (R : q_Gd 2 g S0 S)  (h : fX12_chamber x1 x2 (q_w g S) = some (y, v)) (kk : ∀ S, q_Gd 2 g S0 S → v = q_w g S → post y S) : wX12_chamber (g 0 12 0) x1 x2 S post := by
  unfold wX12_chamber; unfold fX12_chamber at h
  intro T1 q
  obtain ⟨R, q⟩ := q_wI R q rfl rfl
  replace h := q_ltw h q
  obtain ⟨y3, v1, h1, h⟩ := q_bdi h
  refine b_X12_in R h1 (fun T2 R q => ?_)
  subst q
  refine ⟨fun c => ?_, fun c => ?_⟩
  · replace h := q_ifp h c
    exact b_X12_chamber_b49 R h kk
  · replace h := q_ifn h c
    obtain ⟨y5, v1, h1, h⟩ := q_bdi h
    refine b_X12_in R h1 (fun T4 R q => ?_)
    subst q
    refine ⟨fun c => ?_, fun c => ?_⟩
    · replace h := q_ifp h c
      exact b_X12_chamber_b49 R h kk
    · replace h := q_ifn h c
      refine ⟨_, q_p2464 R, ?_⟩
      rw [q_l2464 R]
      obtain ⟨hi, h⟩ := q_in h
      refine ⟨hi, ?_⟩
      refine ⟨fun c => ?_, fun c => ?_⟩
      · replace h := q_ifn h c
        exact b_X12_chamber_b49 R h kk
      · replace h := q_ifp h c
        obtain ⟨hi, h⟩ := q_in h
        refine ⟨hi, ?_⟩
        refine ⟨fun c => ?_, fun c => ?_⟩
        · replace h := q_ifp h c
          refine ⟨_, q_p2463 R, ?_⟩
          rw [q_l2463 R]
          obtain ⟨hi, h⟩ := q_in h
          refine ⟨hi, ?_⟩
          intro T8 q
          obtain ⟨R, q⟩ := q_wA R q rfl
          replace h := q_ltw h q
          exact q_fin h kk R
        · replace h := q_ifn h c
          exact b_X12_chamber_b49 R h kk
def fX12_isTaken_b38 (x1 : Int32) (x2 : Int32) (xn4 : Int32) (xt0 : Int32) (K5 : Int32 → Int32 → q_V → Option (Int32 × q_V)) (Sn : q_V) : Option (Int32 × q_V) :=
  q_lt (xn4 + 1 : Int32) (fun y1001 =>
  K5 xt0 y1001 Sn)
theorem b_X12_isTaken_b38 {g : q_G} {S0 : kp_S} {x1 : Int32} {x2 : Int32} {xn4 : Int32} {xt0 : Int32} {K5f : Int32 → Int32 → q_V → Option (Int32 × q_V)} {K5 : Int32 → Int32 → kp_S → Prop} {Sn : kp_S} {post : Int32 → kp_S → Prop} {y : Int32} {v : q_V} (R : q_Gd 2 g S0 Sn) (hK5 : ∀ (x0 : Int32) (x1 : Int32) (S : kp_S), q_Gd 2 g S0 S → K5f x0 x1 (q_w g S) = some (y, v) → K5 x0 x1 S) (h : fX12_isTaken_b38 x1 x2 xn4 xt0 K5f (q_w g Sn) = some (y, v)) (kk : ∀ S, q_Gd 2 g S0 S → v = q_w g S → post y S) : wX12_isTaken_b38 (g 0 12 0) x1 x2 xn4 xt0 K5 Sn post := by
  unfold wX12_isTaken_b38; unfold fX12_isTaken_b38 at h
  intro y1001 q
  replace h := q_ltw h q
  exact hK5 _ _ _ R h
def fX12_isTaken_b37 (x1 : Int32) (x2 : Int32) (xn4 : Int32) (K5 : Int32 → Int32 → q_V → Option (Int32 × q_V)) (Sn : q_V) : Option (Int32 × q_V) :=
  fX12_isTaken_b38 x1 x2 xn4 0 K5 Sn
theorem b_X12_isTaken_b37 {g : q_G} {S0 : kp_S} {x1 : Int32} {x2 : Int32} {xn4 : Int32} {K5f : Int32 → Int32 → q_V → Option (Int32 × q_V)} {K5 : Int32 → Int32 → kp_S → Prop} {Sn : kp_S} {post : Int32 → kp_S → Prop} {y : Int32} {v : q_V} (R : q_Gd 2 g S0 Sn) (hK5 : ∀ (x0 : Int32) (x1 : Int32) (S : kp_S), q_Gd 2 g S0 S → K5f x0 x1 (q_w g S) = some (y, v) → K5 x0 x1 S) (h : fX12_isTaken_b37 x1 x2 xn4 K5f (q_w g Sn) = some (y, v)) (kk : ∀ S, q_Gd 2 g S0 S → v = q_w g S → post y S) : wX12_isTaken_b37 (g 0 12 0) x1 x2 xn4 K5 Sn post := by
  unfold wX12_isTaken_b37; unfold fX12_isTaken_b37 at h
  exact b_X12_isTaken_b38 R hK5 h kk
def fX12_isTaken_b33 (x1 : Int32) (x2 : Int32) (xn4 : Int32) (K5 : Int32 → Int32 → q_V → Option (Int32 × q_V)) (Sn : q_V) : Option (Int32 × q_V) :=
  fX12_isTaken_b38 x1 x2 xn4 1 K5 Sn
theorem b_X12_isTaken_b33 {g : q_G} {S0 : kp_S} {x1 : Int32} {x2 : Int32} {xn4 : Int32} {K5f : Int32 → Int32 → q_V → Option (Int32 × q_V)} {K5 : Int32 → Int32 → kp_S → Prop} {Sn : kp_S} {post : Int32 → kp_S → Prop} {y : Int32} {v : q_V} (R : q_Gd 2 g S0 Sn) (hK5 : ∀ (x0 : Int32) (x1 : Int32) (S : kp_S), q_Gd 2 g S0 S → K5f x0 x1 (q_w g S) = some (y, v) → K5 x0 x1 S) (h : fX12_isTaken_b33 x1 x2 xn4 K5f (q_w g Sn) = some (y, v)) (kk : ∀ S, q_Gd 2 g S0 S → v = q_w g S → post y S) : wX12_isTaken_b33 (g 0 12 0) x1 x2 xn4 K5 Sn post := by
  unfold wX12_isTaken_b33; unfold fX12_isTaken_b33 at h
  exact b_X12_isTaken_b38 R hK5 h kk
def fX12_isTaken_L5 (x1 : Int32) (x2 : Int32) : Nat → Int32 → Int32 → q_V → Option (Int32 × q_V)
  | 0, _, _, _ => none
  | n + 1, xn3, xn4, Sn =>
  if 8 ≤ xn4 then
  if ¬ (xn3 = 0 ∨ xn3 = 1) then none else
  some (xn3, Sn)
  else
  if xn3 = 0 then
  if xn4 = x2 then
  fX12_isTaken_b37 x1 x2 xn4 (fun xn3_ xn4_ S_ => fX12_isTaken_L5 x1 x2 n xn3_ xn4_ S_) Sn
  else
  if (xn4) < 0 ∨ 8 ≤ (xn4).toNatClampNeg then none else
  if (q_a Sn 2467 xn4.toNatClampNeg) = x1 then
  fX12_isTaken_b33 x1 x2 xn4 (fun xn3_ xn4_ S_ => fX12_isTaken_L5 x1 x2 n xn3_ xn4_ S_) Sn
  else
  fX12_isTaken_b37 x1 x2 xn4 (fun xn3_ xn4_ S_ => fX12_isTaken_L5 x1 x2 n xn3_ xn4_ S_) Sn
  else
  fX12_isTaken_b33 x1 x2 xn4 (fun xn3_ xn4_ S_ => fX12_isTaken_L5 x1 x2 n xn3_ xn4_ S_) Sn
theorem b_X12_isTaken_L5 {g : q_G} {S0 : kp_S} {x1 : Int32} {x2 : Int32} {post : Int32 → kp_S → Prop} {y : Int32} {v : q_V}  (kk : ∀ S, q_Gd 2 g S0 S → v = q_w g S → post y S) : ∀ (n : Nat) (xn3 : Int32) (xn4 : Int32) (Sn : kp_S), q_Gd 2 g S0 Sn → fX12_isTaken_L5 x1 x2 n xn3 xn4 (q_w g Sn) = some (y, v) → wX12_isTaken_L5 (g 0 12 0) x1 x2 post n xn3 xn4 Sn := by
  intro n
  induction n with
  | zero => intro xn3 xn4 Sn _ h; cases h
  | succ n ih =>
    intro xn3 xn4 Sn R h
    unfold wX12_isTaken_L5; unfold fX12_isTaken_L5 at h
    refine ⟨fun c => ?_, fun c => ?_⟩
    · replace h := q_ifp h c
      obtain ⟨hi, h⟩ := q_in h
      refine ⟨Classical.not_not.mp hi, ?_⟩
      exact q_fin h kk R
    · replace h := q_ifn h c
      refine ⟨fun c => ?_, fun c => ?_⟩
      · replace h := q_ifn h c
        exact b_X12_isTaken_b33 R (fun xn3_ xn4_ S_ R h => ih xn3_ xn4_ S_ R h) h kk
      · replace h := q_ifp h c
        refine ⟨fun c => ?_, fun c => ?_⟩
        · replace h := q_ifp h c
          exact b_X12_isTaken_b37 R (fun xn3_ xn4_ S_ R h => ih xn3_ xn4_ S_ R h) h kk
        · replace h := q_ifn h c
          refine ⟨_, q_p2467 R, ?_⟩
          rw [q_l2467 R]
          obtain ⟨hi, h⟩ := q_in h
          refine ⟨hi, ?_⟩
          refine ⟨fun c => ?_, fun c => ?_⟩
          · replace h := q_ifn h c
            exact b_X12_isTaken_b37 R (fun xn3_ xn4_ S_ R h => ih xn3_ xn4_ S_ R h) h kk
          · replace h := q_ifp h c
            exact b_X12_isTaken_b33 R (fun xn3_ xn4_ S_ R h => ih xn3_ xn4_ S_ R h) h kk
def fX12_isTaken (x1 : Int32) (x2 : Int32) (S : q_V) : Option (Int32 × q_V) :=
  fX12_isTaken_L5 x1 x2 q_N 0 0 S
theorem b_X12_isTaken {g : q_G} {S0 : kp_S} {x1 : Int32} {x2 : Int32} {S : kp_S} {post : Int32 → kp_S → Prop} {y : Int32} {v : q_V} (R : q_Gd 2 g S0 S)  (h : fX12_isTaken x1 x2 (q_w g S) = some (y, v)) (kk : ∀ S, q_Gd 2 g S0 S → v = q_w g S → post y S) : wX12_isTaken (g 0 12 0) x1 x2 S post := by
  unfold wX12_isTaken; unfold fX12_isTaken at h
  exact ⟨q_N, b_X12_isTaken_L5 kk q_N _ _ _ R h⟩
def fX12_berth_b41 (x1 : Int32) (x2 : Int32) (Sn : q_V) : Option (Int32 × q_V) :=
  some (0, Sn)
theorem b_X12_berth_b41 {g : q_G} {S0 : kp_S} {x1 : Int32} {x2 : Int32} {Sn : kp_S} {post : Int32 → kp_S → Prop} {y : Int32} {v : q_V} (R : q_Gd 2 g S0 Sn)  (h : fX12_berth_b41 x1 x2 (q_w g Sn) = some (y, v)) (kk : ∀ S, q_Gd 2 g S0 S → v = q_w g S → post y S) : wX12_berth_b41 (g 0 12 0) x1 x2 Sn post := by
  unfold wX12_berth_b41; unfold fX12_berth_b41 at h
  exact q_fin h kk R
def fX12_berth_b43 (x1 : Int32) (x2 : Int32) (Sn : q_V) : Option (Int32 × q_V) :=
  if (x1) < 0 ∨ 8 ≤ (x1).toNatClampNeg then none else
  q_lt (q_sa Sn 2467 ((upd (q_a Sn 2467) (x1.toNatClampNeg) x2))) (fun T2002 =>
  some (1, T2002))
theorem b_X12_berth_b43 {g : q_G} {S0 : kp_S} {x1 : Int32} {x2 : Int32} {Sn : kp_S} {post : Int32 → kp_S → Prop} {y : Int32} {v : q_V} (R : q_Gd 2 g S0 Sn)  (h : fX12_berth_b43 x1 x2 (q_w g Sn) = some (y, v)) (kk : ∀ S, q_Gd 2 g S0 S → v = q_w g S → post y S) : wX12_berth_b43 (g 0 12 0) x1 x2 Sn post := by
  unfold wX12_berth_b43; unfold fX12_berth_b43 at h
  refine ⟨_, q_p2467 R, ?_⟩
  rw [q_l2467 R]
  obtain ⟨hi, h⟩ := q_in h
  refine ⟨hi, ?_⟩
  intro T2002 q
  obtain ⟨R, q⟩ := q_wA R q rfl
  replace h := q_ltw h q
  exact q_fin h kk R
def fX12_berth (x1 : Int32) (x2 : Int32) (S : q_V) : Option (Int32 × q_V) :=
  q_lt (q_si S 2400 0) (fun T1 =>
  q_bd (fX12_in x1 0 7 T1) (fun y3 T2 =>
  if y3 = 0 then
  fX12_berth_b41 x1 x2 T2
  else
  q_bd (fX12_in x2 0 12 T2) (fun y5 T4 =>
  if y5 = 0 then
  fX12_berth_b41 x1 x2 T4
  else
  if (x2 - x2 / 2 * 2) = 1 then
  q_bd (fX12_isTaken x2 x1 T4) (fun y7 T6 =>
  if y7 = 0 then
  fX12_berth_b43 x1 x2 T6
  else
  fX12_berth_b41 x1 x2 T6)
  else
  fX12_berth_b43 x1 x2 T4)))
theorem b_X12_berth {g : q_G} {S0 : kp_S} {x1 : Int32} {x2 : Int32} {S : kp_S} {post : Int32 → kp_S → Prop} {y : Int32} {v : q_V} (R : q_Gd 2 g S0 S)  (h : fX12_berth x1 x2 (q_w g S) = some (y, v)) (kk : ∀ S, q_Gd 2 g S0 S → v = q_w g S → post y S) : wX12_berth (g 0 12 0) x1 x2 S post := by
  unfold wX12_berth; unfold fX12_berth at h
  intro T1 q
  obtain ⟨R, q⟩ := q_wI R q rfl rfl
  replace h := q_ltw h q
  obtain ⟨y3, v1, h1, h⟩ := q_bdi h
  refine b_X12_in R h1 (fun T2 R q => ?_)
  subst q
  refine ⟨fun c => ?_, fun c => ?_⟩
  · replace h := q_ifp h c
    exact b_X12_berth_b41 R h kk
  · replace h := q_ifn h c
    obtain ⟨y5, v1, h1, h⟩ := q_bdi h
    refine b_X12_in R h1 (fun T4 R q => ?_)
    subst q
    refine ⟨fun c => ?_, fun c => ?_⟩
    · replace h := q_ifp h c
      exact b_X12_berth_b41 R h kk
    · replace h := q_ifn h c
      refine ⟨fun c => ?_, fun c => ?_⟩
      · replace h := q_ifn h c
        exact b_X12_berth_b43 R h kk
      · replace h := q_ifp h c
        obtain ⟨y7, v1, h1, h⟩ := q_bdi h
        refine b_X12_isTaken R h1 (fun T6 R q => ?_)
        subst q
        refine ⟨fun c => ?_, fun c => ?_⟩
        · replace h := q_ifp h c
          exact b_X12_berth_b43 R h kk
        · replace h := q_ifn h c
          exact b_X12_berth_b41 R h kk
def fX12_allWater_L27  : Nat → Int32 → Int32 → q_V → Option (Int32 × q_V)
  | 0, _, _, _ => none
  | n + 1, xn1, xn2, Sn =>
  if 7 ≤ xn2 then
  some (xn1, Sn)
  else
  if (xn2) < 0 ∨ 7 ≤ (xn2).toNatClampNeg then none else
  q_lt ((xn1 + (q_a Sn 2466 xn2.toNatClampNeg)) : Int32) (fun y1002 =>
  q_lt (xn2 + 1 : Int32) (fun y1003 =>
  fX12_allWater_L27 n y1002 y1003 Sn))
theorem b_X12_allWater_L27 {g : q_G} {S0 : kp_S} {post : Int32 → kp_S → Prop} {y : Int32} {v : q_V}  (kk : ∀ S, q_Gd 2 g S0 S → v = q_w g S → post y S) : ∀ (n : Nat) (xn1 : Int32) (xn2 : Int32) (Sn : kp_S), q_Gd 2 g S0 Sn → fX12_allWater_L27  n xn1 xn2 (q_w g Sn) = some (y, v) → wX12_allWater_L27 (g 0 12 0) post n xn1 xn2 Sn := by
  intro n
  induction n with
  | zero => intro xn1 xn2 Sn _ h; cases h
  | succ n ih =>
    intro xn1 xn2 Sn R h
    unfold wX12_allWater_L27; unfold fX12_allWater_L27 at h
    refine ⟨fun c => ?_, fun c => ?_⟩
    · replace h := q_ifp h c
      exact q_fin h kk R
    · replace h := q_ifn h c
      refine ⟨_, q_p2466 R, ?_⟩
      rw [q_l2466 R]
      obtain ⟨hi, h⟩ := q_in h
      refine ⟨hi, ?_⟩
      intro y1002 q
      replace h := q_ltw h q
      intro y1003 q
      replace h := q_ltw h q
      exact ih _ _ _ R h
def fX12_allWater_L4  : Nat → Int32 → Int32 → q_V → Option (Int32 × q_V)
  | 0, _, _, _ => none
  | n + 1, xn1, xn2, Sn =>
  if 6 ≤ xn2 then
  fX12_allWater_L27 q_N xn1 0 Sn
  else
  if (xn2) < 0 ∨ 6 ≤ (xn2).toNatClampNeg then none else
  q_lt ((xn1 + (q_a Sn 2463 xn2.toNatClampNeg)) : Int32) (fun y2002 =>
  q_lt (xn2 + 1 : Int32) (fun y2003 =>
  fX12_allWater_L4 n y2002 y2003 Sn))
theorem b_X12_allWater_L4 {g : q_G} {S0 : kp_S} {post : Int32 → kp_S → Prop} {y : Int32} {v : q_V}  (kk : ∀ S, q_Gd 2 g S0 S → v = q_w g S → post y S) : ∀ (n : Nat) (xn1 : Int32) (xn2 : Int32) (Sn : kp_S), q_Gd 2 g S0 Sn → fX12_allWater_L4  n xn1 xn2 (q_w g Sn) = some (y, v) → wX12_allWater_L4 (g 0 12 0) post n xn1 xn2 Sn := by
  intro n
  induction n with
  | zero => intro xn1 xn2 Sn _ h; cases h
  | succ n ih =>
    intro xn1 xn2 Sn R h
    unfold wX12_allWater_L4; unfold fX12_allWater_L4 at h
    refine ⟨fun c => ?_, fun c => ?_⟩
    · replace h := q_ifp h c
      exact ⟨q_N, b_X12_allWater_L27 kk q_N _ _ _ R h⟩
    · replace h := q_ifn h c
      refine ⟨_, q_p2463 R, ?_⟩
      rw [q_l2463 R]
      obtain ⟨hi, h⟩ := q_in h
      refine ⟨hi, ?_⟩
      intro y2002 q
      replace h := q_ltw h q
      intro y2003 q
      replace h := q_ltw h q
      exact ih _ _ _ R h
def fX12_allWater (S : q_V) : Option (Int32 × q_V) :=
  fX12_allWater_L4 q_N 0 0 S
theorem b_X12_allWater {g : q_G} {S0 : kp_S} {S : kp_S} {post : Int32 → kp_S → Prop} {y : Int32} {v : q_V} (R : q_Gd 2 g S0 S)  (h : fX12_allWater (q_w g S) = some (y, v)) (kk : ∀ S, q_Gd 2 g S0 S → v = q_w g S → post y S) : wX12_allWater (g 0 12 0) S post := by
  unfold wX12_allWater; unfold fX12_allWater at h
  exact ⟨q_N, b_X12_allWater_L4 kk q_N _ _ _ R h⟩
def fX12_look_b67 (x1 : Int32) (x2 : Int32) (xt0 : Int32) (Sn : q_V) : Option (Int32 × q_V) :=
  some (xt0, Sn)
theorem b_X12_look_b67 {g : q_G} {S0 : kp_S} {x1 : Int32} {x2 : Int32} {xt0 : Int32} {Sn : kp_S} {post : Int32 → kp_S → Prop} {y : Int32} {v : q_V} (R : q_Gd 2 g S0 Sn)  (h : fX12_look_b67 x1 x2 xt0 (q_w g Sn) = some (y, v)) (kk : ∀ S, q_Gd 2 g S0 S → v = q_w g S → post y S) : wX12_look_b67 (g 0 12 0) x1 x2 xt0 Sn post := by
  unfold wX12_look_b67; unfold fX12_look_b67 at h
  exact q_fin h kk R
def fX12_look_b97 (x1 : Int32) (x2 : Int32) (xt0 : Int32) (Sn : q_V) : Option (Int32 × q_V) :=
  some (xt0, Sn)
theorem b_X12_look_b97 {g : q_G} {S0 : kp_S} {x1 : Int32} {x2 : Int32} {xt0 : Int32} {Sn : kp_S} {post : Int32 → kp_S → Prop} {y : Int32} {v : q_V} (R : q_Gd 2 g S0 Sn)  (h : fX12_look_b97 x1 x2 xt0 (q_w g Sn) = some (y, v)) (kk : ∀ S, q_Gd 2 g S0 S → v = q_w g S → post y S) : wX12_look_b97 (g 0 12 0) x1 x2 xt0 Sn post := by
  unfold wX12_look_b97; unfold fX12_look_b97 at h
  exact q_fin h kk R
def fX12_look_b129 (x1 : Int32) (x2 : Int32) (xt0 : Int32) (Sn : q_V) : Option (Int32 × q_V) :=
  some (xt0, Sn)
theorem b_X12_look_b129 {g : q_G} {S0 : kp_S} {x1 : Int32} {x2 : Int32} {xt0 : Int32} {Sn : kp_S} {post : Int32 → kp_S → Prop} {y : Int32} {v : q_V} (R : q_Gd 2 g S0 Sn)  (h : fX12_look_b129 x1 x2 xt0 (q_w g Sn) = some (y, v)) (kk : ∀ S, q_Gd 2 g S0 S → v = q_w g S → post y S) : wX12_look_b129 (g 0 12 0) x1 x2 xt0 Sn post := by
  unfold wX12_look_b129; unfold fX12_look_b129 at h
  exact q_fin h kk R
def fX12_look_b149 (x1 : Int32) (x2 : Int32) (xt0 : Int32) (Sn : q_V) : Option (Int32 × q_V) :=
  some (xt0, Sn)
theorem b_X12_look_b149 {g : q_G} {S0 : kp_S} {x1 : Int32} {x2 : Int32} {xt0 : Int32} {Sn : kp_S} {post : Int32 → kp_S → Prop} {y : Int32} {v : q_V} (R : q_Gd 2 g S0 Sn)  (h : fX12_look_b149 x1 x2 xt0 (q_w g Sn) = some (y, v)) (kk : ∀ S, q_Gd 2 g S0 S → v = q_w g S → post y S) : wX12_look_b149 (g 0 12 0) x1 x2 xt0 Sn post := by
  unfold wX12_look_b149; unfold fX12_look_b149 at h
  exact q_fin h kk R
def fX12_look_b170 (x1 : Int32) (x2 : Int32) (xt0 : Int32) (Sn : q_V) : Option (Int32 × q_V) :=
  some (xt0, Sn)
theorem b_X12_look_b170 {g : q_G} {S0 : kp_S} {x1 : Int32} {x2 : Int32} {xt0 : Int32} {Sn : kp_S} {post : Int32 → kp_S → Prop} {y : Int32} {v : q_V} (R : q_Gd 2 g S0 Sn)  (h : fX12_look_b170 x1 x2 xt0 (q_w g Sn) = some (y, v)) (kk : ∀ S, q_Gd 2 g S0 S → v = q_w g S → post y S) : wX12_look_b170 (g 0 12 0) x1 x2 xt0 Sn post := by
  unfold wX12_look_b170; unfold fX12_look_b170 at h
  exact q_fin h kk R
def fX12_look_b191 (x1 : Int32) (x2 : Int32) (xt0 : Int32) (Sn : q_V) : Option (Int32 × q_V) :=
  some (xt0, Sn)
theorem b_X12_look_b191 {g : q_G} {S0 : kp_S} {x1 : Int32} {x2 : Int32} {xt0 : Int32} {Sn : kp_S} {post : Int32 → kp_S → Prop} {y : Int32} {v : q_V} (R : q_Gd 2 g S0 Sn)  (h : fX12_look_b191 x1 x2 xt0 (q_w g Sn) = some (y, v)) (kk : ∀ S, q_Gd 2 g S0 S → v = q_w g S → post y S) : wX12_look_b191 (g 0 12 0) x1 x2 xt0 Sn post := by
  unfold wX12_look_b191; unfold fX12_look_b191 at h
  exact q_fin h kk R
def fX12_look (x1 : Int32) (x2 : Int32) (S : q_V) : Option (Int32 × q_V) :=
  q_lt (q_si S 2400 0) (fun T1 =>
  if x1 = 0 then
  q_bd (fX12_in x2 0 5 T1) (fun y4 T3 =>
  if y4 = 0 then
  fX12_look_b67 x1 x2 ((- 1)) T3
  else
  if (x2) < 0 ∨ 6 ≤ (x2).toNatClampNeg then none else
  fX12_look_b67 x1 x2 ((q_a T3 2463 x2.toNatClampNeg)) T3)
  else
  if x1 = 1 then
  q_bd (fX12_in x2 0 5 T1) (fun y9 T8 =>
  if y9 = 0 then
  fX12_look_b97 x1 x2 ((- 1)) T8
  else
  if (2 * x2) < 0 ∨ 12 ≤ (2 * x2).toNatClampNeg then none else
  if (q_a T8 2464 (2 * x2).toNatClampNeg) = 0 then
  fX12_look_b97 x1 x2 0 T8
  else
  fX12_look_b97 x1 x2 1 T8)
  else
  if x1 = 2 then
  q_bd (fX12_in x2 0 5 T1) (fun y15 T14 =>
  if y15 = 0 then
  fX12_look_b129 x1 x2 ((- 1)) T14
  else
  if ((2 * x2) + 1) < 0 ∨ 12 ≤ ((2 * x2) + 1).toNatClampNeg then none else
  if (q_a T14 2464 ((2 * x2) + 1).toNatClampNeg) = 0 then
  fX12_look_b129 x1 x2 0 T14
  else
  fX12_look_b129 x1 x2 1 T14)
  else
  if x1 = 3 then
  q_bd (fX12_in x2 0 5 T1) (fun y21 T20 =>
  if y21 = 0 then
  fX12_look_b149 x1 x2 ((- 1)) T20
  else
  if (x2) < 0 ∨ 6 ≤ (x2).toNatClampNeg then none else
  fX12_look_b149 x1 x2 ((q_a T20 2465 x2.toNatClampNeg)) T20)
  else
  if x1 = 4 then
  q_bd (fX12_in x2 0 6 T1) (fun y26 T25 =>
  if y26 = 0 then
  fX12_look_b170 x1 x2 ((- 1)) T25
  else
  if (x2) < 0 ∨ 7 ≤ (x2).toNatClampNeg then none else
  fX12_look_b170 x1 x2 ((q_a T25 2466 x2.toNatClampNeg)) T25)
  else
  if x1 = 5 then
  q_bd (fX12_in x2 0 7 T1) (fun y31 T30 =>
  if y31 = 0 then
  fX12_look_b191 x1 x2 ((- 1)) T30
  else
  if (x2) < 0 ∨ 8 ≤ (x2).toNatClampNeg then none else
  fX12_look_b191 x1 x2 ((q_a T30 2467 x2.toNatClampNeg)) T30)
  else
  if x1 = 6 then
  q_bd (fX12_allWater T1) (fun y36 T35 =>
  some (y36, T35))
  else
  some ((- 1), T1))
theorem b_X12_look {g : q_G} {S0 : kp_S} {x1 : Int32} {x2 : Int32} {S : kp_S} {post : Int32 → kp_S → Prop} {y : Int32} {v : q_V} (R : q_Gd 2 g S0 S)  (h : fX12_look x1 x2 (q_w g S) = some (y, v)) (kk : ∀ S, q_Gd 2 g S0 S → v = q_w g S → post y S) : wX12_look (g 0 12 0) x1 x2 S post := by
  unfold wX12_look; unfold fX12_look at h
  intro T1 q
  obtain ⟨R, q⟩ := q_wI R q rfl rfl
  replace h := q_ltw h q
  refine ⟨fun c => ?_, fun c => ?_⟩
  · replace h := q_ifp h c
    obtain ⟨y4, v1, h1, h⟩ := q_bdi h
    refine b_X12_in R h1 (fun T3 R q => ?_)
    subst q
    refine ⟨fun c => ?_, fun c => ?_⟩
    · replace h := q_ifp h c
      exact b_X12_look_b67 R h kk
    · replace h := q_ifn h c
      refine ⟨_, q_p2463 R, ?_⟩
      rw [q_l2463 R]
      obtain ⟨hi, h⟩ := q_in h
      refine ⟨hi, ?_⟩
      exact b_X12_look_b67 R h kk
  · replace h := q_ifn h c
    refine ⟨fun c => ?_, fun c => ?_⟩
    · replace h := q_ifp h c
      obtain ⟨y9, v1, h1, h⟩ := q_bdi h
      refine b_X12_in R h1 (fun T8 R q => ?_)
      subst q
      refine ⟨fun c => ?_, fun c => ?_⟩
      · replace h := q_ifp h c
        exact b_X12_look_b97 R h kk
      · replace h := q_ifn h c
        refine ⟨_, q_p2464 R, ?_⟩
        rw [q_l2464 R]
        obtain ⟨hi, h⟩ := q_in h
        refine ⟨hi, ?_⟩
        refine ⟨fun c => ?_, fun c => ?_⟩
        · replace h := q_ifp h c
          exact b_X12_look_b97 R h kk
        · replace h := q_ifn h c
          exact b_X12_look_b97 R h kk
    · replace h := q_ifn h c
      refine ⟨fun c => ?_, fun c => ?_⟩
      · replace h := q_ifp h c
        obtain ⟨y15, v1, h1, h⟩ := q_bdi h
        refine b_X12_in R h1 (fun T14 R q => ?_)
        subst q
        refine ⟨fun c => ?_, fun c => ?_⟩
        · replace h := q_ifp h c
          exact b_X12_look_b129 R h kk
        · replace h := q_ifn h c
          refine ⟨_, q_p2464 R, ?_⟩
          rw [q_l2464 R]
          obtain ⟨hi, h⟩ := q_in h
          refine ⟨hi, ?_⟩
          refine ⟨fun c => ?_, fun c => ?_⟩
          · replace h := q_ifp h c
            exact b_X12_look_b129 R h kk
          · replace h := q_ifn h c
            exact b_X12_look_b129 R h kk
      · replace h := q_ifn h c
        refine ⟨fun c => ?_, fun c => ?_⟩
        · replace h := q_ifp h c
          obtain ⟨y21, v1, h1, h⟩ := q_bdi h
          refine b_X12_in R h1 (fun T20 R q => ?_)
          subst q
          refine ⟨fun c => ?_, fun c => ?_⟩
          · replace h := q_ifp h c
            exact b_X12_look_b149 R h kk
          · replace h := q_ifn h c
            refine ⟨_, q_p2465 R, ?_⟩
            rw [q_l2465 R]
            obtain ⟨hi, h⟩ := q_in h
            refine ⟨hi, ?_⟩
            exact b_X12_look_b149 R h kk
        · replace h := q_ifn h c
          refine ⟨fun c => ?_, fun c => ?_⟩
          · replace h := q_ifp h c
            obtain ⟨y26, v1, h1, h⟩ := q_bdi h
            refine b_X12_in R h1 (fun T25 R q => ?_)
            subst q
            refine ⟨fun c => ?_, fun c => ?_⟩
            · replace h := q_ifp h c
              exact b_X12_look_b170 R h kk
            · replace h := q_ifn h c
              refine ⟨_, q_p2466 R, ?_⟩
              rw [q_l2466 R]
              obtain ⟨hi, h⟩ := q_in h
              refine ⟨hi, ?_⟩
              exact b_X12_look_b170 R h kk
          · replace h := q_ifn h c
            refine ⟨fun c => ?_, fun c => ?_⟩
            · replace h := q_ifp h c
              obtain ⟨y31, v1, h1, h⟩ := q_bdi h
              refine b_X12_in R h1 (fun T30 R q => ?_)
              subst q
              refine ⟨fun c => ?_, fun c => ?_⟩
              · replace h := q_ifp h c
                exact b_X12_look_b191 R h kk
              · replace h := q_ifn h c
                refine ⟨_, q_p2467 R, ?_⟩
                rw [q_l2467 R]
                obtain ⟨hi, h⟩ := q_in h
                refine ⟨hi, ?_⟩
                exact b_X12_look_b191 R h kk
            · replace h := q_ifn h c
              refine ⟨fun c => ?_, fun c => ?_⟩
              · replace h := q_ifp h c
                obtain ⟨y36, v1, h1, h⟩ := q_bdi h
                refine b_X12_allWater R h1 (fun T35 R q => ?_)
                subst q
                exact q_fin h kk R
              · replace h := q_ifn h c
                exact q_fin h kk R
def fX12_note_b30 (x1 : Int32) (x2 : Int32) (Sn : q_V) : Option q_V :=
  q_lt (q_si Sn 2470 (((q_i Sn 2470) + 1))) (fun T1001 =>
  some T1001)
theorem b_X12_note_b30 {g : q_G} {S0 : kp_S} {x1 : Int32} {x2 : Int32} {Sn : kp_S} {post : kp_S → Prop} {v : q_V} (R : q_Gd 2 g S0 Sn)  (h : fX12_note_b30 x1 x2 (q_w g Sn) = some v) (kk : ∀ S, q_Gd 2 g S0 S → v = q_w g S → post S) : wX12_note_b30 (g 0 12 0) x1 x2 Sn post := by
  unfold wX12_note_b30; unfold fX12_note_b30 at h
  intro T1001 q
  obtain ⟨R, q⟩ := q_wI R q rfl rfl
  replace h := q_ltw h q
  exact q_finv h kk R
def fX12_note (x1 : Int32) (x2 : Int32) (S : q_V) : Option q_V :=
  if 300 ≤ (q_i S 2470) then
  fX12_note_b30 x1 x2 S
  else
  if (q_i S 2470) < 0 ∨ 300 ≤ (q_i S 2470).toNatClampNeg then none else
  q_lt (q_sa S 2468 ((upd (q_a S 2468) ((q_i S 2470).toNatClampNeg) x1))) (fun T2 =>
  if (q_i T2 2470) < 0 ∨ 300 ≤ (q_i T2 2470).toNatClampNeg then none else
  q_lt (q_sa T2 2469 ((upd (q_a T2 2469) ((q_i T2 2470).toNatClampNeg) x2))) (fun T4 =>
  fX12_note_b30 x1 x2 T4))
theorem b_X12_note {g : q_G} {S0 : kp_S} {x1 : Int32} {x2 : Int32} {S : kp_S} {post : kp_S → Prop} {v : q_V} (R : q_Gd 2 g S0 S)  (h : fX12_note x1 x2 (q_w g S) = some v) (kk : ∀ S, q_Gd 2 g S0 S → v = q_w g S → post S) : wX12_note (g 0 12 0) x1 x2 S post := by
  unfold wX12_note; unfold fX12_note at h
  refine ⟨fun c => ?_, fun c => ?_⟩
  · replace h := q_ifp h c
    exact b_X12_note_b30 R h kk
  · replace h := q_ifn h c
    refine ⟨_, q_p2468 R, ?_⟩
    rw [q_l2468 R]
    obtain ⟨hi, h⟩ := q_in h
    refine ⟨hi, ?_⟩
    intro T2 q
    obtain ⟨R, q⟩ := q_wA R q rfl
    replace h := q_ltw h q
    refine ⟨_, q_p2469 R, ?_⟩
    rw [q_l2469 R]
    obtain ⟨hi, h⟩ := q_in h
    refine ⟨hi, ?_⟩
    intro T4 q
    obtain ⟨R, q⟩ := q_wA R q rfl
    replace h := q_ltw h q
    exact b_X12_note_b30 R h kk
def fX12_push (x1 : Int32) (S : q_V) : Option q_V :=
  if (q_i S 2516) < 0 ∨ 4000 ≤ (q_i S 2516).toNatClampNeg then none else
  q_lt (q_sa S 2515 ((upd (q_a S 2515) ((q_i S 2516).toNatClampNeg) x1))) (fun T2 =>
  q_lt (q_si T2 2516 (((q_i T2 2516) + 1))) (fun T3 =>
  some T3))
theorem b_X12_push {g : q_G} {S0 : kp_S} {x1 : Int32} {S : kp_S} {post : kp_S → Prop} {v : q_V} (R : q_Gd 2 g S0 S)  (h : fX12_push x1 (q_w g S) = some v) (kk : ∀ S, q_Gd 2 g S0 S → v = q_w g S → post S) : wX12_push (g 0 12 0) x1 S post := by
  unfold wX12_push; unfold fX12_push at h
  refine ⟨_, q_p2515 R, ?_⟩
  rw [q_l2515 R]
  obtain ⟨hi, h⟩ := q_in h
  refine ⟨hi, ?_⟩
  intro T2 q
  obtain ⟨R, q⟩ := q_wA R q rfl
  replace h := q_ltw h q
  intro T3 q
  obtain ⟨R, q⟩ := q_wI R q rfl rfl
  replace h := q_ltw h q
  exact q_finv h kk R
def fX12_pop (S : q_V) : Option (Int32 × q_V) :=
  q_lt (q_si S 2516 (((q_i S 2516) - 1))) (fun T1 =>
  if (q_i T1 2516) < 0 ∨ 4000 ≤ (q_i T1 2516).toNatClampNeg then none else
  some ((q_a T1 2515 (q_i T1 2516).toNatClampNeg), T1))
theorem b_X12_pop {g : q_G} {S0 : kp_S} {S : kp_S} {post : Int32 → kp_S → Prop} {y : Int32} {v : q_V} (R : q_Gd 2 g S0 S)  (h : fX12_pop (q_w g S) = some (y, v)) (kk : ∀ S, q_Gd 2 g S0 S → v = q_w g S → post y S) : wX12_pop (g 0 12 0) S post := by
  unfold wX12_pop; unfold fX12_pop at h
  intro T1 q
  obtain ⟨R, q⟩ := q_wI R q rfl rfl
  replace h := q_ltw h q
  refine ⟨_, q_p2515 R, ?_⟩
  rw [q_l2515 R]
  obtain ⟨hi, h⟩ := q_in h
  refine ⟨hi, ?_⟩
  exact q_fin h kk R
def fX12_burns (S : q_V) : Option (Int32 × q_V) :=
  if (q_i S 2512) = 0 then
  q_lt (q_si S 2513 2) (fun T2 =>
  some (0, T2))
  else
  q_lt (q_si S 2512 (((q_i S 2512) - 1))) (fun T1 =>
  some (1, T1))
theorem b_X12_burns {g : q_G} {S0 : kp_S} {S : kp_S} {post : Int32 → kp_S → Prop} {y : Int32} {v : q_V} (R : q_Gd 2 g S0 S)  (h : fX12_burns (q_w g S) = some (y, v)) (kk : ∀ S, q_Gd 2 g S0 S → v = q_w g S → post y S) : wX12_burns (g 0 12 0) S post := by
  unfold wX12_burns; unfold fX12_burns at h
  refine ⟨fun c => ?_, fun c => ?_⟩
  · replace h := q_ifn h c
    intro T1 q
    obtain ⟨R, q⟩ := q_wI R q rfl rfl
    replace h := q_ltw h q
    exact q_fin h kk R
  · replace h := q_ifp h c
    intro T2 q
    obtain ⟨R, q⟩ := q_wI R q rfl rfl
    replace h := q_ltw h q
    exact q_fin h kk R
def fX12_opens (x1 : Int32) (x2 : Int32) (x3 : Int32) (S : q_V) : Option q_V :=
  if (q_i S 2487) < 0 ∨ 240 ≤ (q_i S 2487).toNatClampNeg then none else
  q_lt (q_sa S 2488 ((upd (q_a S 2488) ((q_i S 2487).toNatClampNeg) x1))) (fun T2 =>
  if (q_i T2 2487) < 0 ∨ 240 ≤ (q_i T2 2487).toNatClampNeg then none else
  q_lt (q_sa T2 2489 ((upd (q_a T2 2489) ((q_i T2 2487).toNatClampNeg) x2))) (fun T4 =>
  if (q_i T4 2487) < 0 ∨ 240 ≤ (q_i T4 2487).toNatClampNeg then none else
  q_lt (q_sa T4 2490 ((upd (q_a T4 2490) ((q_i T4 2487).toNatClampNeg) x3))) (fun T6 =>
  if (q_i T6 2487) < 0 ∨ 240 ≤ (q_i T6 2487).toNatClampNeg then none else
  q_lt (q_sa T6 2491 ((upd (q_a T6 2491) ((q_i T6 2487).toNatClampNeg) 0))) (fun T8 =>
  if (q_i T8 2487) < 0 ∨ 240 ≤ (q_i T8 2487).toNatClampNeg then none else
  q_lt (q_sa T8 2492 ((upd (q_a T8 2492) ((q_i T8 2487).toNatClampNeg) (q_i T8 2516)))) (fun T10 =>
  q_lt (q_si T10 2487 (((q_i T10 2487) + 1))) (fun T11 =>
  some T11))))))
theorem b_X12_opens {g : q_G} {S0 : kp_S} {x1 : Int32} {x2 : Int32} {x3 : Int32} {S : kp_S} {post : kp_S → Prop} {v : q_V} (R : q_Gd 2 g S0 S)  (h : fX12_opens x1 x2 x3 (q_w g S) = some v) (kk : ∀ S, q_Gd 2 g S0 S → v = q_w g S → post S) : wX12_opens (g 0 12 0) x1 x2 x3 S post := by
  unfold wX12_opens; unfold fX12_opens at h
  refine ⟨_, q_p2488 R, ?_⟩
  rw [q_l2488 R]
  obtain ⟨hi, h⟩ := q_in h
  refine ⟨hi, ?_⟩
  intro T2 q
  obtain ⟨R, q⟩ := q_wA R q rfl
  replace h := q_ltw h q
  refine ⟨_, q_p2489 R, ?_⟩
  rw [q_l2489 R]
  obtain ⟨hi, h⟩ := q_in h
  refine ⟨hi, ?_⟩
  intro T4 q
  obtain ⟨R, q⟩ := q_wA R q rfl
  replace h := q_ltw h q
  refine ⟨_, q_p2490 R, ?_⟩
  rw [q_l2490 R]
  obtain ⟨hi, h⟩ := q_in h
  refine ⟨hi, ?_⟩
  intro T6 q
  obtain ⟨R, q⟩ := q_wA R q rfl
  replace h := q_ltw h q
  refine ⟨_, q_p2491 R, ?_⟩
  rw [q_l2491 R]
  obtain ⟨hi, h⟩ := q_in h
  refine ⟨hi, ?_⟩
  intro T8 q
  obtain ⟨R, q⟩ := q_wA R q rfl
  replace h := q_ltw h q
  refine ⟨_, q_p2492 R, ?_⟩
  rw [q_l2492 R]
  obtain ⟨hi, h⟩ := q_in h
  refine ⟨hi, ?_⟩
  intro T10 q
  obtain ⟨R, q⟩ := q_wA R q rfl
  replace h := q_ltw h q
  intro T11 q
  obtain ⟨R, q⟩ := q_wI R q rfl rfl
  replace h := q_ltw h q
  exact q_finv h kk R
def fX12_keepWay (x1 : Int32) (S : q_V) : Option q_V :=
  if (x1) < 0 ∨ 240 ≤ (x1).toNatClampNeg then none else
  q_lt (q_sa S 2495 ((upd (q_a S 2495) (x1.toNatClampNeg) (q_i S 2481)))) (fun T2 =>
  if (x1) < 0 ∨ 240 ≤ (x1).toNatClampNeg then none else
  q_lt (q_sa T2 2496 ((upd (q_a T2 2496) (x1.toNatClampNeg) (q_i T2 2482)))) (fun T4 =>
  if (x1) < 0 ∨ 240 ≤ (x1).toNatClampNeg then none else
  q_lt (q_sa T4 2497 ((upd (q_a T4 2497) (x1.toNatClampNeg) (q_i T4 2483)))) (fun T6 =>
  if (x1) < 0 ∨ 240 ≤ (x1).toNatClampNeg then none else
  q_lt (q_sa T6 2498 ((upd (q_a T6 2498) (x1.toNatClampNeg) (q_i T6 2484)))) (fun T8 =>
  if (x1) < 0 ∨ 240 ≤ (x1).toNatClampNeg then none else
  q_lt (q_sa T8 2499 ((upd (q_a T8 2499) (x1.toNatClampNeg) (q_i T8 2485)))) (fun T10 =>
  if (x1) < 0 ∨ 240 ≤ (x1).toNatClampNeg then none else
  q_lt (q_sa T10 2500 ((upd (q_a T10 2500) (x1.toNatClampNeg) (q_i T10 2486)))) (fun T12 =>
  some T12))))))
theorem b_X12_keepWay {g : q_G} {S0 : kp_S} {x1 : Int32} {S : kp_S} {post : kp_S → Prop} {v : q_V} (R : q_Gd 2 g S0 S)  (h : fX12_keepWay x1 (q_w g S) = some v) (kk : ∀ S, q_Gd 2 g S0 S → v = q_w g S → post S) : wX12_keepWay (g 0 12 0) x1 S post := by
  unfold wX12_keepWay; unfold fX12_keepWay at h
  refine ⟨_, q_p2495 R, ?_⟩
  rw [q_l2495 R]
  obtain ⟨hi, h⟩ := q_in h
  refine ⟨hi, ?_⟩
  intro T2 q
  obtain ⟨R, q⟩ := q_wA R q rfl
  replace h := q_ltw h q
  refine ⟨_, q_p2496 R, ?_⟩
  rw [q_l2496 R]
  obtain ⟨hi, h⟩ := q_in h
  refine ⟨hi, ?_⟩
  intro T4 q
  obtain ⟨R, q⟩ := q_wA R q rfl
  replace h := q_ltw h q
  refine ⟨_, q_p2497 R, ?_⟩
  rw [q_l2497 R]
  obtain ⟨hi, h⟩ := q_in h
  refine ⟨hi, ?_⟩
  intro T6 q
  obtain ⟨R, q⟩ := q_wA R q rfl
  replace h := q_ltw h q
  refine ⟨_, q_p2498 R, ?_⟩
  rw [q_l2498 R]
  obtain ⟨hi, h⟩ := q_in h
  refine ⟨hi, ?_⟩
  intro T8 q
  obtain ⟨R, q⟩ := q_wA R q rfl
  replace h := q_ltw h q
  refine ⟨_, q_p2499 R, ?_⟩
  rw [q_l2499 R]
  obtain ⟨hi, h⟩ := q_in h
  refine ⟨hi, ?_⟩
  intro T10 q
  obtain ⟨R, q⟩ := q_wA R q rfl
  replace h := q_ltw h q
  refine ⟨_, q_p2500 R, ?_⟩
  rw [q_l2500 R]
  obtain ⟨hi, h⟩ := q_in h
  refine ⟨hi, ?_⟩
  intro T12 q
  obtain ⟨R, q⟩ := q_wA R q rfl
  replace h := q_ltw h q
  exact q_finv h kk R
def fX12_takeWay (x1 : Int32) (S : q_V) : Option q_V :=
  if (x1) < 0 ∨ 240 ≤ (x1).toNatClampNeg then none else
  q_lt (q_si S 2481 ((q_a S 2495 x1.toNatClampNeg))) (fun T2 =>
  if (x1) < 0 ∨ 240 ≤ (x1).toNatClampNeg then none else
  q_lt (q_si T2 2482 ((q_a T2 2496 x1.toNatClampNeg))) (fun T4 =>
  if (x1) < 0 ∨ 240 ≤ (x1).toNatClampNeg then none else
  q_lt (q_si T4 2483 ((q_a T4 2497 x1.toNatClampNeg))) (fun T6 =>
  if (x1) < 0 ∨ 240 ≤ (x1).toNatClampNeg then none else
  q_lt (q_si T6 2484 ((q_a T6 2498 x1.toNatClampNeg))) (fun T8 =>
  if (x1) < 0 ∨ 240 ≤ (x1).toNatClampNeg then none else
  q_lt (q_si T8 2485 ((q_a T8 2499 x1.toNatClampNeg))) (fun T10 =>
  if (x1) < 0 ∨ 240 ≤ (x1).toNatClampNeg then none else
  q_lt (q_si T10 2486 ((q_a T10 2500 x1.toNatClampNeg))) (fun T12 =>
  some T12))))))
theorem b_X12_takeWay {g : q_G} {S0 : kp_S} {x1 : Int32} {S : kp_S} {post : kp_S → Prop} {v : q_V} (R : q_Gd 2 g S0 S)  (h : fX12_takeWay x1 (q_w g S) = some v) (kk : ∀ S, q_Gd 2 g S0 S → v = q_w g S → post S) : wX12_takeWay (g 0 12 0) x1 S post := by
  unfold wX12_takeWay; unfold fX12_takeWay at h
  refine ⟨_, q_p2495 R, ?_⟩
  rw [q_l2495 R]
  obtain ⟨hi, h⟩ := q_in h
  refine ⟨hi, ?_⟩
  intro T2 q
  obtain ⟨R, q⟩ := q_wI R q rfl rfl
  replace h := q_ltw h q
  refine ⟨_, q_p2496 R, ?_⟩
  rw [q_l2496 R]
  obtain ⟨hi, h⟩ := q_in h
  refine ⟨hi, ?_⟩
  intro T4 q
  obtain ⟨R, q⟩ := q_wI R q rfl rfl
  replace h := q_ltw h q
  refine ⟨_, q_p2497 R, ?_⟩
  rw [q_l2497 R]
  obtain ⟨hi, h⟩ := q_in h
  refine ⟨hi, ?_⟩
  intro T6 q
  obtain ⟨R, q⟩ := q_wI R q rfl rfl
  replace h := q_ltw h q
  refine ⟨_, q_p2498 R, ?_⟩
  rw [q_l2498 R]
  obtain ⟨hi, h⟩ := q_in h
  refine ⟨hi, ?_⟩
  intro T8 q
  obtain ⟨R, q⟩ := q_wI R q rfl rfl
  replace h := q_ltw h q
  refine ⟨_, q_p2499 R, ?_⟩
  rw [q_l2499 R]
  obtain ⟨hi, h⟩ := q_in h
  refine ⟨hi, ?_⟩
  intro T10 q
  obtain ⟨R, q⟩ := q_wI R q rfl rfl
  replace h := q_ltw h q
  refine ⟨_, q_p2500 R, ?_⟩
  rw [q_l2500 R]
  obtain ⟨hi, h⟩ := q_in h
  refine ⟨hi, ?_⟩
  intro T12 q
  obtain ⟨R, q⟩ := q_wI R q rfl rfl
  replace h := q_ltw h q
  exact q_finv h kk R
def fX12_loses_b32 (x1 : Int32) (Sn : q_V) : Option q_V :=
  some Sn
theorem b_X12_loses_b32 {g : q_G} {S0 : kp_S} {x1 : Int32} {Sn : kp_S} {post : kp_S → Prop} {v : q_V} (R : q_Gd 2 g S0 Sn)  (h : fX12_loses_b32 x1 (q_w g Sn) = some v) (kk : ∀ S, q_Gd 2 g S0 S → v = q_w g S → post S) : wX12_loses_b32 (g 0 12 0) x1 Sn post := by
  unfold wX12_loses_b32; unfold fX12_loses_b32 at h
  exact q_finv h kk R
def fX12_loses (x1 : Int32) (S : q_V) : Option q_V :=
  if (x1) < 0 ∨ 240 ≤ (x1).toNatClampNeg then none else
  if (q_a S 2495 x1.toNatClampNeg) = 4 then
  q_lt (q_si S 2479 (((q_i S 2479) + 1))) (fun T2 =>
  if (x1) < 0 ∨ 240 ≤ (x1).toNatClampNeg then none else
  q_bv (fX12_note 9 ((q_a T2 2498 x1.toNatClampNeg)) T2) (fun T4 =>
  fX12_loses_b32 x1 T4))
  else
  fX12_loses_b32 x1 S
theorem b_X12_loses {g : q_G} {S0 : kp_S} {x1 : Int32} {S : kp_S} {post : kp_S → Prop} {v : q_V} (R : q_Gd 2 g S0 S)  (h : fX12_loses x1 (q_w g S) = some v) (kk : ∀ S, q_Gd 2 g S0 S → v = q_w g S → post S) : wX12_loses (g 0 12 0) x1 S post := by
  unfold wX12_loses; unfold fX12_loses at h
  refine ⟨_, q_p2495 R, ?_⟩
  rw [q_l2495 R]
  obtain ⟨hi, h⟩ := q_in h
  refine ⟨hi, ?_⟩
  refine ⟨fun c => ?_, fun c => ?_⟩
  · replace h := q_ifn h c
    exact b_X12_loses_b32 R h kk
  · replace h := q_ifp h c
    intro T2 q
    obtain ⟨R, q⟩ := q_wI R q rfl rfl
    replace h := q_ltw h q
    refine ⟨_, q_p2498 R, ?_⟩
    rw [q_l2498 R]
    obtain ⟨hi, h⟩ := q_in h
    refine ⟨hi, ?_⟩
    obtain ⟨v1, h1, h⟩ := q_bvi h
    refine b_X12_note R h1 (fun T4 R q => ?_)
    subst q
    exact b_X12_loses_b32 R h kk
def fX12_goes (x1 : Int32) (x2 : Int32) (S : q_V) : Option q_V :=
  q_lt (q_si S 2481 0) (fun T1 =>
  if (x1) < 0 ∨ 240 ≤ (x1).toNatClampNeg then none else
  q_lt (q_si T1 2516 ((q_a T1 2492 x1.toNatClampNeg))) (fun T3 =>
  q_lt (q_si T3 2510 x2) (fun T4 =>
  some T4)))
theorem b_X12_goes {g : q_G} {S0 : kp_S} {x1 : Int32} {x2 : Int32} {S : kp_S} {post : kp_S → Prop} {v : q_V} (R : q_Gd 2 g S0 S)  (h : fX12_goes x1 x2 (q_w g S) = some v) (kk : ∀ S, q_Gd 2 g S0 S → v = q_w g S → post S) : wX12_goes (g 0 12 0) x1 x2 S post := by
  unfold wX12_goes; unfold fX12_goes at h
  intro T1 q
  obtain ⟨R, q⟩ := q_wI R q rfl rfl
  replace h := q_ltw h q
  refine ⟨_, q_p2492 R, ?_⟩
  rw [q_l2492 R]
  obtain ⟨hi, h⟩ := q_in h
  refine ⟨hi, ?_⟩
  intro T3 q
  obtain ⟨R, q⟩ := q_wI R q rfl rfl
  replace h := q_ltw h q
  intro T4 q
  obtain ⟨R, q⟩ := q_wI R q rfl rfl
  replace h := q_ltw h q
  exact q_finv h kk R
def fX12_closes (x1 : Int32) (x2 : Int32) (S : q_V) : Option (Int32 × q_V) :=
  q_lt (q_si S 2487 x1) (fun T1 =>
  if (q_i T1 2481) = 0 then
  q_bv (fX12_goes x1 x2 T1) (fun T2 =>
  some (0, T2))
  else
  some (1, T1))
theorem b_X12_closes {g : q_G} {S0 : kp_S} {x1 : Int32} {x2 : Int32} {S : kp_S} {post : Int32 → kp_S → Prop} {y : Int32} {v : q_V} (R : q_Gd 2 g S0 S)  (h : fX12_closes x1 x2 (q_w g S) = some (y, v)) (kk : ∀ S, q_Gd 2 g S0 S → v = q_w g S → post y S) : wX12_closes (g 0 12 0) x1 x2 S post := by
  unfold wX12_closes; unfold fX12_closes at h
  intro T1 q
  obtain ⟨R, q⟩ := q_wI R q rfl rfl
  replace h := q_ltw h q
  refine ⟨fun c => ?_, fun c => ?_⟩
  · replace h := q_ifp h c
    obtain ⟨v1, h1, h⟩ := q_bvi h
    refine b_X12_goes R h1 (fun T2 R q => ?_)
    subst q
    exact q_fin h kk R
  · replace h := q_ifn h c
    exact q_fin h kk R
def fX12_leavesHold_b42 (x1 : Int32) (Sn : q_V) : Option (Int32 × q_V) :=
  if (x1) < 0 ∨ 240 ≤ (x1).toNatClampNeg then none else
  q_bd (fX12_closes x1 (((q_b Sn 2493 x1.toNatClampNeg : Int64).toInt32)) Sn) (fun y1003 T1002 =>
  if ¬ (y1003 = 0 ∨ y1003 = 1) then none else
  some (y1003, T1002))
theorem b_X12_leavesHold_b42 {g : q_G} {S0 : kp_S} {x1 : Int32} {Sn : kp_S} {post : Int32 → kp_S → Prop} {y : Int32} {v : q_V} (R : q_Gd 2 g S0 Sn)  (h : fX12_leavesHold_b42 x1 (q_w g Sn) = some (y, v)) (kk : ∀ S, q_Gd 2 g S0 S → v = q_w g S → post y S) : wX12_leavesHold_b42 (g 0 12 0) x1 Sn post := by
  unfold wX12_leavesHold_b42; unfold fX12_leavesHold_b42 at h
  refine ⟨_, q_p2493 R, ?_⟩
  rw [q_l2493 R]
  obtain ⟨hi, h⟩ := q_in h
  refine ⟨hi, ?_⟩
  obtain ⟨y1003, v1, h1, h⟩ := q_bdi h
  refine b_X12_closes R h1 (fun T1002 R q => ?_)
  subst q
  obtain ⟨hi, h⟩ := q_in h
  refine ⟨Classical.not_not.mp hi, ?_⟩
  exact q_fin h kk R
def fX12_leavesHold (x1 : Int32) (S : q_V) : Option (Int32 × q_V) :=
  if (x1) < 0 ∨ 240 ≤ (x1).toNatClampNeg then none else
  q_lt ((q_a S 2490 x1.toNatClampNeg) : Int32) (fun y2 =>
  if (y2) < 0 ∨ 6 ≤ (y2).toNatClampNeg then none else
  if (y2) < 0 ∨ 6 ≤ (y2).toNatClampNeg then none else
  q_lt (q_sa S 2465 ((upd (q_a S 2465) (y2.toNatClampNeg) ((q_a S 2465 y2.toNatClampNeg) - 1)))) (fun T4 =>
  q_lt (q_si T4 2472 (((q_i T4 2472) + 1))) (fun T5 =>
  if (y2) < 0 ∨ 6 ≤ (y2).toNatClampNeg then none else
  if (q_a T5 2465 y2.toNatClampNeg) = 0 then
  q_bv (fX12_note 2 y2 T5) (fun T6 =>
  fX12_leavesHold_b42 x1 T6)
  else
  fX12_leavesHold_b42 x1 T5)))
theorem b_X12_leavesHold {g : q_G} {S0 : kp_S} {x1 : Int32} {S : kp_S} {post : Int32 → kp_S → Prop} {y : Int32} {v : q_V} (R : q_Gd 2 g S0 S)  (h : fX12_leavesHold x1 (q_w g S) = some (y, v)) (kk : ∀ S, q_Gd 2 g S0 S → v = q_w g S → post y S) : wX12_leavesHold (g 0 12 0) x1 S post := by
  unfold wX12_leavesHold; unfold fX12_leavesHold at h
  refine ⟨_, q_p2490 R, ?_⟩
  rw [q_l2490 R]
  obtain ⟨hi, h⟩ := q_in h
  refine ⟨hi, ?_⟩
  intro y2 q
  replace h := q_ltw h q
  refine ⟨_, q_p2465 R, ?_⟩
  rw [q_l2465 R]
  obtain ⟨hi, h⟩ := q_in h
  refine ⟨hi, ?_⟩
  obtain ⟨hi, h⟩ := q_in h
  refine ⟨hi, ?_⟩
  intro T4 q
  obtain ⟨R, q⟩ := q_wA R q rfl
  replace h := q_ltw h q
  intro T5 q
  obtain ⟨R, q⟩ := q_wI R q rfl rfl
  replace h := q_ltw h q
  rw [q_l2465 R]
  obtain ⟨hi, h⟩ := q_in h
  refine ⟨hi, ?_⟩
  refine ⟨fun c => ?_, fun c => ?_⟩
  · replace h := q_ifn h c
    exact b_X12_leavesHold_b42 R h kk
  · replace h := q_ifp h c
    obtain ⟨v1, h1, h⟩ := q_bvi h
    refine b_X12_note R h1 (fun T6 R q => ?_)
    subst q
    exact b_X12_leavesHold_b42 R h kk
def fX12_beginsAlways_b40 (x1 : Int32) (xn2 : Int32) (xt0 : Int32) (xt1 : Int32) (Sn : q_V) : Option q_V :=
  if (xt1) < 0 ∨ 240 ≤ (xt1).toNatClampNeg then none else
  q_lt (q_sa Sn 2491 ((upd (q_a Sn 2491) (xt1.toNatClampNeg) xt0))) (fun T1001 =>
  q_lt (q_si T1001 2474 (((q_i T1001 2474) + 1))) (fun T1002 =>
  if (xn2) < 0 ∨ 640 ≤ (xn2).toNatClampNeg then none else
  q_bv (fX12_note 11 ((q_a T1002 2454 xn2.toNatClampNeg)) T1002) (fun T1004 =>
  if (xn2) < 0 ∨ 640 ≤ (xn2).toNatClampNeg then none else
  q_bv (fX12_goes x1 ((q_a T1004 2452 xn2.toNatClampNeg)) T1004) (fun T1006 =>
  some T1006))))
theorem b_X12_beginsAlways_b40 {g : q_G} {S0 : kp_S} {x1 : Int32} {xn2 : Int32} {xt0 : Int32} {xt1 : Int32} {Sn : kp_S} {post : kp_S → Prop} {v : q_V} (R : q_Gd 2 g S0 Sn)  (h : fX12_beginsAlways_b40 x1 xn2 xt0 xt1 (q_w g Sn) = some v) (kk : ∀ S, q_Gd 2 g S0 S → v = q_w g S → post S) : wX12_beginsAlways_b40 (g 0 12 0) x1 xn2 xt0 xt1 (g 1 2491 0) Sn post := by
  unfold wX12_beginsAlways_b40; unfold fX12_beginsAlways_b40 at h
  rw [q_l2491 R]
  obtain ⟨hi, h⟩ := q_in h
  refine ⟨hi, ?_⟩
  intro T1001 q
  obtain ⟨R, q⟩ := q_wA R q rfl
  replace h := q_ltw h q
  intro T1002 q
  obtain ⟨R, q⟩ := q_wI R q rfl rfl
  replace h := q_ltw h q
  refine ⟨_, q_p2454 R, ?_⟩
  rw [q_l2454 R]
  obtain ⟨hi, h⟩ := q_in h
  refine ⟨hi, ?_⟩
  obtain ⟨v1, h1, h⟩ := q_bvi h
  refine b_X12_note R h1 (fun T1004 R q => ?_)
  subst q
  refine ⟨_, q_p2452 R, ?_⟩
  rw [q_l2452 R]
  obtain ⟨hi, h⟩ := q_in h
  refine ⟨hi, ?_⟩
  obtain ⟨v1, h1, h⟩ := q_bvi h
  refine b_X12_goes R h1 (fun T1006 R q => ?_)
  subst q
  exact q_finv h kk R
def fX12_beginsAlways (x1 : Int32) (S : q_V) : Option q_V :=
  if (x1) < 0 ∨ 240 ≤ (x1).toNatClampNeg then none else
  q_lt ((q_a S 2490 x1.toNatClampNeg) : Int32) (fun y2 =>
  q_bv (fX12_keepWay x1 S) (fun T3 =>
  if (x1) < 0 ∨ 240 ≤ (x1).toNatClampNeg then none else
  q_lt (q_sa T3 2489 ((upd (q_a T3 2489) (x1.toNatClampNeg) 2))) (fun T5 =>
  if (q_i T5 2481) = 4 then
  fX12_beginsAlways_b40 x1 y2 ((q_i T5 2484)) x1 T5
  else
  fX12_beginsAlways_b40 x1 y2 0 x1 T5)))
theorem b_X12_beginsAlways {g : q_G} {S0 : kp_S} {x1 : Int32} {S : kp_S} {post : kp_S → Prop} {v : q_V} (R : q_Gd 2 g S0 S)  (h : fX12_beginsAlways x1 (q_w g S) = some v) (kk : ∀ S, q_Gd 2 g S0 S → v = q_w g S → post S) : wX12_beginsAlways (g 0 12 0) x1 S post := by
  unfold wX12_beginsAlways; unfold fX12_beginsAlways at h
  refine ⟨_, q_p2490 R, ?_⟩
  rw [q_l2490 R]
  obtain ⟨hi, h⟩ := q_in h
  refine ⟨hi, ?_⟩
  intro y2 q
  replace h := q_ltw h q
  obtain ⟨v1, h1, h⟩ := q_bvi h
  refine b_X12_keepWay R h1 (fun T3 R q => ?_)
  subst q
  refine ⟨_, q_p2489 R, ?_⟩
  rw [q_l2489 R]
  obtain ⟨hi, h⟩ := q_in h
  refine ⟨hi, ?_⟩
  intro T5 q
  obtain ⟨R, q⟩ := q_wA R q rfl
  replace h := q_ltw h q
  refine ⟨_, q_p2491 R, ?_⟩
  refine ⟨fun c => ?_, fun c => ?_⟩
  · replace h := q_ifn h c
    exact b_X12_beginsAlways_b40 R h kk
  · replace h := q_ifp h c
    exact b_X12_beginsAlways_b40 R h kk
def fX12_endsAlways_b20 (x1 : Int32) (Sn : q_V) : Option q_V :=
  if (x1) < 0 ∨ 240 ≤ (x1).toNatClampNeg then none else
  q_lt (q_sa Sn 2491 ((upd (q_a Sn 2491) (x1.toNatClampNeg) 0))) (fun T1002 =>
  some T1002)
theorem b_X12_endsAlways_b20 {g : q_G} {S0 : kp_S} {x1 : Int32} {Sn : kp_S} {post : kp_S → Prop} {v : q_V} (R : q_Gd 2 g S0 Sn)  (h : fX12_endsAlways_b20 x1 (q_w g Sn) = some v) (kk : ∀ S, q_Gd 2 g S0 S → v = q_w g S → post S) : wX12_endsAlways_b20 (g 0 12 0) x1 Sn post := by
  unfold wX12_endsAlways_b20; unfold fX12_endsAlways_b20 at h
  refine ⟨_, q_p2491 R, ?_⟩
  rw [q_l2491 R]
  obtain ⟨hi, h⟩ := q_in h
  refine ⟨hi, ?_⟩
  intro T1002 q
  obtain ⟨R, q⟩ := q_wA R q rfl
  replace h := q_ltw h q
  exact q_finv h kk R
def fX12_endsAlways (x1 : Int32) (S : q_V) : Option q_V :=
  if (q_i S 2481) = 0 then
  q_bv (fX12_takeWay x1 S) (fun T2 =>
  fX12_endsAlways_b20 x1 T2)
  else
  q_bv (fX12_loses x1 S) (fun T1 =>
  fX12_endsAlways_b20 x1 T1)
theorem b_X12_endsAlways {g : q_G} {S0 : kp_S} {x1 : Int32} {S : kp_S} {post : kp_S → Prop} {v : q_V} (R : q_Gd 2 g S0 S)  (h : fX12_endsAlways x1 (q_w g S) = some v) (kk : ∀ S, q_Gd 2 g S0 S → v = q_w g S → post S) : wX12_endsAlways (g 0 12 0) x1 S post := by
  unfold wX12_endsAlways; unfold fX12_endsAlways at h
  refine ⟨fun c => ?_, fun c => ?_⟩
  · replace h := q_ifn h c
    obtain ⟨v1, h1, h⟩ := q_bvi h
    refine b_X12_loses R h1 (fun T1 R q => ?_)
    subst q
    exact b_X12_endsAlways_b20 R h kk
  · replace h := q_ifp h c
    obtain ⟨v1, h1, h⟩ := q_bvi h
    refine b_X12_takeWay R h1 (fun T2 R q => ?_)
    subst q
    exact b_X12_endsAlways_b20 R h kk
def fX12_leavesLoop_b93 (x1 : Int32) (xn2 : Int32) (Sn : q_V) : Option (Int32 × q_V) :=
  if (x1) < 0 ∨ 240 ≤ (x1).toNatClampNeg then none else
  q_lt (q_sa Sn 2489 ((upd (q_a Sn 2489) (x1.toNatClampNeg) 0))) (fun T1002 =>
  if (xn2) < 0 ∨ 640 ≤ (xn2).toNatClampNeg then none else
  q_bv (fX12_goes x1 ((q_a T1002 2451 xn2.toNatClampNeg)) T1002) (fun T1004 =>
  some (0, T1004)))
theorem b_X12_leavesLoop_b93 {g : q_G} {S0 : kp_S} {x1 : Int32} {xn2 : Int32} {Sn : kp_S} {post : Int32 → kp_S → Prop} {y : Int32} {v : q_V} (R : q_Gd 2 g S0 Sn)  (h : fX12_leavesLoop_b93 x1 xn2 (q_w g Sn) = some (y, v)) (kk : ∀ S, q_Gd 2 g S0 S → v = q_w g S → post y S) : wX12_leavesLoop_b93 (g 0 12 0) x1 xn2 Sn post := by
  unfold wX12_leavesLoop_b93; unfold fX12_leavesLoop_b93 at h
  refine ⟨_, q_p2489 R, ?_⟩
  rw [q_l2489 R]
  obtain ⟨hi, h⟩ := q_in h
  refine ⟨hi, ?_⟩
  intro T1002 q
  obtain ⟨R, q⟩ := q_wA R q rfl
  replace h := q_ltw h q
  refine ⟨_, q_p2451 R, ?_⟩
  rw [q_l2451 R]
  obtain ⟨hi, h⟩ := q_in h
  refine ⟨hi, ?_⟩
  obtain ⟨v1, h1, h⟩ := q_bvi h
  refine b_X12_goes R h1 (fun T1004 R q => ?_)
  subst q
  exact q_fin h kk R
def fX12_leavesLoop_b134 (x1 : Int32) (xn2 : Int32) (Sn : q_V) : Option (Int32 × q_V) :=
  if (xn2) < 0 ∨ 640 ≤ (xn2).toNatClampNeg then none else
  q_bd (fX12_closes x1 ((q_a Sn 2453 xn2.toNatClampNeg)) Sn) (fun y2003 T2002 =>
  if ¬ (y2003 = 0 ∨ y2003 = 1) then none else
  some (y2003, T2002))
theorem b_X12_leavesLoop_b134 {g : q_G} {S0 : kp_S} {x1 : Int32} {xn2 : Int32} {Sn : kp_S} {post : Int32 → kp_S → Prop} {y : Int32} {v : q_V} (R : q_Gd 2 g S0 Sn)  (h : fX12_leavesLoop_b134 x1 xn2 (q_w g Sn) = some (y, v)) (kk : ∀ S, q_Gd 2 g S0 S → v = q_w g S → post y S) : wX12_leavesLoop_b134 (g 0 12 0) x1 xn2 Sn post := by
  unfold wX12_leavesLoop_b134; unfold fX12_leavesLoop_b134 at h
  refine ⟨_, q_p2453 R, ?_⟩
  rw [q_l2453 R]
  obtain ⟨hi, h⟩ := q_in h
  refine ⟨hi, ?_⟩
  obtain ⟨y2003, v1, h1, h⟩ := q_bdi h
  refine b_X12_closes R h1 (fun T2002 R q => ?_)
  subst q
  obtain ⟨hi, h⟩ := q_in h
  refine ⟨Classical.not_not.mp hi, ?_⟩
  exact q_fin h kk R
def fX12_leavesLoop_b113 (x1 : Int32) (xn2 : Int32) (Sn : q_V) : Option (Int32 × q_V) :=
  if (q_i Sn 2481) = 1 then
  if (q_i Sn 2482) = xn2 then
  q_lt (q_si Sn 2481 0) (fun T3001 =>
  fX12_leavesLoop_b134 x1 xn2 T3001)
  else
  fX12_leavesLoop_b134 x1 xn2 Sn
  else
  fX12_leavesLoop_b134 x1 xn2 Sn
theorem b_X12_leavesLoop_b113 {g : q_G} {S0 : kp_S} {x1 : Int32} {xn2 : Int32} {Sn : kp_S} {post : Int32 → kp_S → Prop} {y : Int32} {v : q_V} (R : q_Gd 2 g S0 Sn)  (h : fX12_leavesLoop_b113 x1 xn2 (q_w g Sn) = some (y, v)) (kk : ∀ S, q_Gd 2 g S0 S → v = q_w g S → post y S) : wX12_leavesLoop_b113 (g 0 12 0) x1 xn2 Sn post := by
  unfold wX12_leavesLoop_b113; unfold fX12_leavesLoop_b113 at h
  refine ⟨fun c => ?_, fun c => ?_⟩
  · replace h := q_ifn h c
    exact b_X12_leavesLoop_b134 R h kk
  · replace h := q_ifp h c
    refine ⟨fun c => ?_, fun c => ?_⟩
    · replace h := q_ifn h c
      exact b_X12_leavesLoop_b134 R h kk
    · replace h := q_ifp h c
      intro T3001 q
      obtain ⟨R, q⟩ := q_wI R q rfl rfl
      replace h := q_ltw h q
      exact b_X12_leavesLoop_b134 R h kk
def fX12_leavesLoop_b70 (x1 : Int32) (xn2 : Int32) (Sn : q_V) : Option (Int32 × q_V) :=
  if (q_i Sn 2481) = 0 then
  fX12_leavesLoop_b93 x1 xn2 Sn
  else
  if (q_i Sn 2481) = 2 then
  if (q_i Sn 2482) = xn2 then
  fX12_leavesLoop_b93 x1 xn2 Sn
  else
  fX12_leavesLoop_b113 x1 xn2 Sn
  else
  fX12_leavesLoop_b113 x1 xn2 Sn
theorem b_X12_leavesLoop_b70 {g : q_G} {S0 : kp_S} {x1 : Int32} {xn2 : Int32} {Sn : kp_S} {post : Int32 → kp_S → Prop} {y : Int32} {v : q_V} (R : q_Gd 2 g S0 Sn)  (h : fX12_leavesLoop_b70 x1 xn2 (q_w g Sn) = some (y, v)) (kk : ∀ S, q_Gd 2 g S0 S → v = q_w g S → post y S) : wX12_leavesLoop_b70 (g 0 12 0) x1 xn2 Sn post := by
  unfold wX12_leavesLoop_b70; unfold fX12_leavesLoop_b70 at h
  refine ⟨fun c => ?_, fun c => ?_⟩
  · replace h := q_ifp h c
    exact b_X12_leavesLoop_b93 R h kk
  · replace h := q_ifn h c
    refine ⟨fun c => ?_, fun c => ?_⟩
    · replace h := q_ifn h c
      exact b_X12_leavesLoop_b113 R h kk
    · replace h := q_ifp h c
      refine ⟨fun c => ?_, fun c => ?_⟩
      · replace h := q_ifn h c
        exact b_X12_leavesLoop_b113 R h kk
      · replace h := q_ifp h c
        exact b_X12_leavesLoop_b93 R h kk
def fX12_leavesLoop_b55 (x1 : Int32) (xn2 : Int32) (Sn : q_V) : Option (Int32 × q_V) :=
  if (x1) < 0 ∨ 240 ≤ (x1).toNatClampNeg then none else
  if (q_a Sn 2489 x1.toNatClampNeg) = 2 then
  q_bv (fX12_endsAlways x1 Sn) (fun T5002 =>
  fX12_leavesLoop_b70 x1 xn2 T5002)
  else
  fX12_leavesLoop_b70 x1 xn2 Sn
theorem b_X12_leavesLoop_b55 {g : q_G} {S0 : kp_S} {x1 : Int32} {xn2 : Int32} {Sn : kp_S} {post : Int32 → kp_S → Prop} {y : Int32} {v : q_V} (R : q_Gd 2 g S0 Sn)  (h : fX12_leavesLoop_b55 x1 xn2 (q_w g Sn) = some (y, v)) (kk : ∀ S, q_Gd 2 g S0 S → v = q_w g S → post y S) : wX12_leavesLoop_b55 (g 0 12 0) x1 xn2 Sn post := by
  unfold wX12_leavesLoop_b55; unfold fX12_leavesLoop_b55 at h
  refine ⟨_, q_p2489 R, ?_⟩
  rw [q_l2489 R]
  obtain ⟨hi, h⟩ := q_in h
  refine ⟨hi, ?_⟩
  refine ⟨fun c => ?_, fun c => ?_⟩
  · replace h := q_ifn h c
    exact b_X12_leavesLoop_b70 R h kk
  · replace h := q_ifp h c
    obtain ⟨v1, h1, h⟩ := q_bvi h
    refine b_X12_endsAlways R h1 (fun T5002 R q => ?_)
    subst q
    exact b_X12_leavesLoop_b70 R h kk
def fX12_leavesLoop (x1 : Int32) (S : q_V) : Option (Int32 × q_V) :=
  if (x1) < 0 ∨ 240 ≤ (x1).toNatClampNeg then none else
  q_lt ((q_a S 2490 x1.toNatClampNeg) : Int32) (fun y2 =>
  if (x1) < 0 ∨ 240 ≤ (x1).toNatClampNeg then none else
  if (q_a S 2489 x1.toNatClampNeg) = 0 then
  if (y2) < 0 ∨ 640 ≤ (y2).toNatClampNeg then none else
  q_bd (fX12_closes x1 ((q_a S 2453 y2.toNatClampNeg)) S) (fun y10 T9 =>
  if ¬ (y10 = 0 ∨ y10 = 1) then none else
  some (y10, T9))
  else
  if (x1) < 0 ∨ 240 ≤ (x1).toNatClampNeg then none else
  if (q_a S 2489 x1.toNatClampNeg) = 1 then
  if (y2) < 0 ∨ 640 ≤ (y2).toNatClampNeg then none else
  if (q_a S 2452 y2.toNatClampNeg) = (- 1) then
  fX12_leavesLoop_b55 x1 y2 S
  else
  q_bv (fX12_beginsAlways x1 S) (fun T5 =>
  some (0, T5))
  else
  fX12_leavesLoop_b55 x1 y2 S)
theorem b_X12_leavesLoop {g : q_G} {S0 : kp_S} {x1 : Int32} {S : kp_S} {post : Int32 → kp_S → Prop} {y : Int32} {v : q_V} (R : q_Gd 2 g S0 S)  (h : fX12_leavesLoop x1 (q_w g S) = some (y, v)) (kk : ∀ S, q_Gd 2 g S0 S → v = q_w g S → post y S) : wX12_leavesLoop (g 0 12 0) x1 S post := by
  unfold wX12_leavesLoop; unfold fX12_leavesLoop at h
  refine ⟨_, q_p2490 R, ?_⟩
  rw [q_l2490 R]
  obtain ⟨hi, h⟩ := q_in h
  refine ⟨hi, ?_⟩
  intro y2 q
  replace h := q_ltw h q
  refine ⟨_, q_p2489 R, ?_⟩
  rw [q_l2489 R]
  obtain ⟨hi, h⟩ := q_in h
  refine ⟨hi, ?_⟩
  refine ⟨fun c => ?_, fun c => ?_⟩
  · replace h := q_ifn h c
    obtain ⟨hi, h⟩ := q_in h
    refine ⟨hi, ?_⟩
    refine ⟨fun c => ?_, fun c => ?_⟩
    · replace h := q_ifn h c
      exact b_X12_leavesLoop_b55 R h kk
    · replace h := q_ifp h c
      refine ⟨_, q_p2452 R, ?_⟩
      rw [q_l2452 R]
      obtain ⟨hi, h⟩ := q_in h
      refine ⟨hi, ?_⟩
      refine ⟨fun c => ?_, fun c => ?_⟩
      · replace h := q_ifp h c
        exact b_X12_leavesLoop_b55 R h kk
      · replace h := q_ifn h c
        obtain ⟨v1, h1, h⟩ := q_bvi h
        refine b_X12_beginsAlways R h1 (fun T5 R q => ?_)
        subst q
        exact q_fin h kk R
  · replace h := q_ifp h c
    refine ⟨_, q_p2453 R, ?_⟩
    rw [q_l2453 R]
    obtain ⟨hi, h⟩ := q_in h
    refine ⟨hi, ?_⟩
    obtain ⟨y10, v1, h1, h⟩ := q_bdi h
    refine b_X12_closes R h1 (fun T9 R q => ?_)
    subst q
    obtain ⟨hi, h⟩ := q_in h
    refine ⟨Classical.not_not.mp hi, ?_⟩
    exact q_fin h kk R
def fX12_leavesTrial_b122 (x1 : Int32) (xn2 : Int32) (Sn : q_V) : Option (Int32 × q_V) :=
  if (x1) < 0 ∨ 240 ≤ (x1).toNatClampNeg then none else
  q_lt (q_sa Sn 2491 ((upd (q_a Sn 2491) (x1.toNatClampNeg) 0))) (fun T1002 =>
  if (xn2) < 0 ∨ 640 ≤ (xn2).toNatClampNeg then none else
  if (q_a T1002 2452 xn2.toNatClampNeg) = (- 1) then
  if (xn2) < 0 ∨ 640 ≤ (xn2).toNatClampNeg then none else
  q_bd (fX12_closes x1 ((q_a T1002 2453 xn2.toNatClampNeg)) T1002) (fun y1006 T1005 =>
  if ¬ (y1006 = 0 ∨ y1006 = 1) then none else
  some (y1006, T1005))
  else
  q_bv (fX12_beginsAlways x1 T1002) (fun T1007 =>
  some (0, T1007)))
theorem b_X12_leavesTrial_b122 {g : q_G} {S0 : kp_S} {x1 : Int32} {xn2 : Int32} {Sn : kp_S} {post : Int32 → kp_S → Prop} {y : Int32} {v : q_V} (R : q_Gd 2 g S0 Sn)  (h : fX12_leavesTrial_b122 x1 xn2 (q_w g Sn) = some (y, v)) (kk : ∀ S, q_Gd 2 g S0 S → v = q_w g S → post y S) : wX12_leavesTrial_b122 (g 0 12 0) x1 xn2 Sn post := by
  unfold wX12_leavesTrial_b122; unfold fX12_leavesTrial_b122 at h
  refine ⟨_, q_p2491 R, ?_⟩
  rw [q_l2491 R]
  obtain ⟨hi, h⟩ := q_in h
  refine ⟨hi, ?_⟩
  intro T1002 q
  obtain ⟨R, q⟩ := q_wA R q rfl
  replace h := q_ltw h q
  refine ⟨_, q_p2452 R, ?_⟩
  rw [q_l2452 R]
  obtain ⟨hi, h⟩ := q_in h
  refine ⟨hi, ?_⟩
  refine ⟨fun c => ?_, fun c => ?_⟩
  · replace h := q_ifp h c
    refine ⟨_, q_p2453 R, ?_⟩
    rw [q_l2453 R]
    obtain ⟨hi, h⟩ := q_in h
    refine ⟨hi, ?_⟩
    obtain ⟨y1006, v1, h1, h⟩ := q_bdi h
    refine b_X12_closes R h1 (fun T1005 R q => ?_)
    subst q
    obtain ⟨hi, h⟩ := q_in h
    refine ⟨Classical.not_not.mp hi, ?_⟩
    exact q_fin h kk R
  · replace h := q_ifn h c
    obtain ⟨v1, h1, h⟩ := q_bvi h
    refine b_X12_beginsAlways R h1 (fun T1007 R q => ?_)
    subst q
    exact q_fin h kk R
def fX12_leavesTrial_b80 (x1 : Int32) (xn2 : Int32) (Sn : q_V) : Option (Int32 × q_V) :=
  if (x1) < 0 ∨ 240 ≤ (x1).toNatClampNeg then none else
  if (q_a Sn 2489 x1.toNatClampNeg) = 2 then
  q_bv (fX12_endsAlways x1 Sn) (fun T2004 =>
  if (xn2) < 0 ∨ 640 ≤ (xn2).toNatClampNeg then none else
  q_bd (fX12_closes x1 ((q_a T2004 2453 xn2.toNatClampNeg)) T2004) (fun y2007 T2006 =>
  if ¬ (y2007 = 0 ∨ y2007 = 1) then none else
  some (y2007, T2006)))
  else
  if (x1) < 0 ∨ 240 ≤ (x1).toNatClampNeg then none else
  if (q_a Sn 2489 x1.toNatClampNeg) = 4 then
  q_bv (fX12_loses x1 Sn) (fun T2002 =>
  fX12_leavesTrial_b122 x1 xn2 T2002)
  else
  fX12_leavesTrial_b122 x1 xn2 Sn
theorem b_X12_leavesTrial_b80 {g : q_G} {S0 : kp_S} {x1 : Int32} {xn2 : Int32} {Sn : kp_S} {post : Int32 → kp_S → Prop} {y : Int32} {v : q_V} (R : q_Gd 2 g S0 Sn)  (h : fX12_leavesTrial_b80 x1 xn2 (q_w g Sn) = some (y, v)) (kk : ∀ S, q_Gd 2 g S0 S → v = q_w g S → post y S) : wX12_leavesTrial_b80 (g 0 12 0) x1 xn2 Sn post := by
  unfold wX12_leavesTrial_b80; unfold fX12_leavesTrial_b80 at h
  refine ⟨_, q_p2489 R, ?_⟩
  rw [q_l2489 R]
  obtain ⟨hi, h⟩ := q_in h
  refine ⟨hi, ?_⟩
  refine ⟨fun c => ?_, fun c => ?_⟩
  · replace h := q_ifn h c
    obtain ⟨hi, h⟩ := q_in h
    refine ⟨hi, ?_⟩
    refine ⟨fun c => ?_, fun c => ?_⟩
    · replace h := q_ifn h c
      exact b_X12_leavesTrial_b122 R h kk
    · replace h := q_ifp h c
      obtain ⟨v1, h1, h⟩ := q_bvi h
      refine b_X12_loses R h1 (fun T2002 R q => ?_)
      subst q
      exact b_X12_leavesTrial_b122 R h kk
  · replace h := q_ifp h c
    obtain ⟨v1, h1, h⟩ := q_bvi h
    refine b_X12_endsAlways R h1 (fun T2004 R q => ?_)
    subst q
    refine ⟨_, q_p2453 R, ?_⟩
    rw [q_l2453 R]
    obtain ⟨hi, h⟩ := q_in h
    refine ⟨hi, ?_⟩
    obtain ⟨y2007, v1, h1, h⟩ := q_bdi h
    refine b_X12_closes R h1 (fun T2006 R q => ?_)
    subst q
    obtain ⟨hi, h⟩ := q_in h
    refine ⟨Classical.not_not.mp hi, ?_⟩
    exact q_fin h kk R
def fX12_leavesTrial (x1 : Int32) (S : q_V) : Option (Int32 × q_V) :=
  if (x1) < 0 ∨ 240 ≤ (x1).toNatClampNeg then none else
  q_lt ((q_a S 2490 x1.toNatClampNeg) : Int32) (fun y2 =>
  if (x1) < 0 ∨ 240 ≤ (x1).toNatClampNeg then none else
  if (q_a S 2489 x1.toNatClampNeg) = 3 then
  if (q_i S 2481) = 4 then
  if (y2) < 0 ∨ 640 ≤ (y2).toNatClampNeg then none else
  if (q_a S 2456 y2.toNatClampNeg) = (- 1) then
  fX12_leavesTrial_b80 x1 y2 S
  else
  q_bv (fX12_keepWay x1 S) (fun T5 =>
  if (x1) < 0 ∨ 240 ≤ (x1).toNatClampNeg then none else
  q_lt (q_sa T5 2489 ((upd (q_a T5 2489) (x1.toNatClampNeg) 4))) (fun T7 =>
  if (x1) < 0 ∨ 240 ≤ (x1).toNatClampNeg then none else
  q_lt (q_sa T7 2491 ((upd (q_a T7 2491) (x1.toNatClampNeg) (q_i T7 2484)))) (fun T9 =>
  if (y2) < 0 ∨ 640 ≤ (y2).toNatClampNeg then none else
  q_lt (q_si T9 2511 ((q_a T9 2454 y2.toNatClampNeg))) (fun T11 =>
  if (y2) < 0 ∨ 640 ≤ (y2).toNatClampNeg then none else
  q_bv (fX12_goes x1 ((q_a T11 2456 y2.toNatClampNeg)) T11) (fun T13 =>
  some (0, T13))))))
  else
  fX12_leavesTrial_b80 x1 y2 S
  else
  fX12_leavesTrial_b80 x1 y2 S)
theorem b_X12_leavesTrial {g : q_G} {S0 : kp_S} {x1 : Int32} {S : kp_S} {post : Int32 → kp_S → Prop} {y : Int32} {v : q_V} (R : q_Gd 2 g S0 S)  (h : fX12_leavesTrial x1 (q_w g S) = some (y, v)) (kk : ∀ S, q_Gd 2 g S0 S → v = q_w g S → post y S) : wX12_leavesTrial (g 0 12 0) x1 S post := by
  unfold wX12_leavesTrial; unfold fX12_leavesTrial at h
  refine ⟨_, q_p2490 R, ?_⟩
  rw [q_l2490 R]
  obtain ⟨hi, h⟩ := q_in h
  refine ⟨hi, ?_⟩
  intro y2 q
  replace h := q_ltw h q
  refine ⟨_, q_p2489 R, ?_⟩
  rw [q_l2489 R]
  obtain ⟨hi, h⟩ := q_in h
  refine ⟨hi, ?_⟩
  refine ⟨fun c => ?_, fun c => ?_⟩
  · replace h := q_ifn h c
    exact b_X12_leavesTrial_b80 R h kk
  · replace h := q_ifp h c
    refine ⟨fun c => ?_, fun c => ?_⟩
    · replace h := q_ifn h c
      exact b_X12_leavesTrial_b80 R h kk
    · replace h := q_ifp h c
      refine ⟨_, q_p2456 R, ?_⟩
      rw [q_l2456 R]
      obtain ⟨hi, h⟩ := q_in h
      refine ⟨hi, ?_⟩
      refine ⟨fun c => ?_, fun c => ?_⟩
      · replace h := q_ifp h c
        exact b_X12_leavesTrial_b80 R h kk
      · replace h := q_ifn h c
        obtain ⟨v1, h1, h⟩ := q_bvi h
        refine b_X12_keepWay R h1 (fun T5 R q => ?_)
        subst q
        refine ⟨_, q_p2489 R, ?_⟩
        rw [q_l2489 R]
        obtain ⟨hi, h⟩ := q_in h
        refine ⟨hi, ?_⟩
        intro T7 q
        obtain ⟨R, q⟩ := q_wA R q rfl
        replace h := q_ltw h q
        refine ⟨_, q_p2491 R, ?_⟩
        rw [q_l2491 R]
        obtain ⟨hi, h⟩ := q_in h
        refine ⟨hi, ?_⟩
        intro T9 q
        obtain ⟨R, q⟩ := q_wA R q rfl
        replace h := q_ltw h q
        refine ⟨_, q_p2454 R, ?_⟩
        rw [q_l2454 R]
        obtain ⟨hi, h⟩ := q_in h
        refine ⟨hi, ?_⟩
        intro T11 q
        obtain ⟨R, q⟩ := q_wI R q rfl rfl
        replace h := q_ltw h q
        refine ⟨_, q_p2456 R, ?_⟩
        rw [q_l2456 R]
        obtain ⟨hi, h⟩ := q_in h
        refine ⟨hi, ?_⟩
        obtain ⟨v1, h1, h⟩ := q_bvi h
        refine b_X12_goes R h1 (fun T13 R q => ?_)
        subst q
        exact q_fin h kk R
def fX12_leavesEnsure_b52 (x1 : Int32) (xn2 : Int32) (xt0 : Int32) (xt1 : Int32) (Sn : q_V) : Option (Int32 × q_V) :=
  if (xt1) < 0 ∨ 240 ≤ (xt1).toNatClampNeg then none else
  q_lt (q_sa Sn 2491 ((upd (q_a Sn 2491) (xt1.toNatClampNeg) xt0))) (fun T2001 =>
  if (xn2) < 0 ∨ 640 ≤ (xn2).toNatClampNeg then none else
  q_lt (q_si T2001 2511 ((q_a T2001 2454 xn2.toNatClampNeg))) (fun T2003 =>
  if (xn2) < 0 ∨ 640 ≤ (xn2).toNatClampNeg then none else
  q_bv (fX12_goes x1 ((q_a T2003 2451 xn2.toNatClampNeg)) T2003) (fun T2005 =>
  q_bd (fX12_burns T2005) (fun y2007 T2006 =>
  some (0, T2006)))))
theorem b_X12_leavesEnsure_b52 {g : q_G} {S0 : kp_S} {x1 : Int32} {xn2 : Int32} {xt0 : Int32} {xt1 : Int32} {Sn : kp_S} {post : Int32 → kp_S → Prop} {y : Int32} {v : q_V} (R : q_Gd 2 g S0 Sn)  (h : fX12_leavesEnsure_b52 x1 xn2 xt0 xt1 (q_w g Sn) = some (y, v)) (kk : ∀ S, q_Gd 2 g S0 S → v = q_w g S → post y S) : wX12_leavesEnsure_b52 (g 0 12 0) x1 xn2 xt0 xt1 (g 1 2491 0) Sn post := by
  unfold wX12_leavesEnsure_b52; unfold fX12_leavesEnsure_b52 at h
  rw [q_l2491 R]
  obtain ⟨hi, h⟩ := q_in h
  refine ⟨hi, ?_⟩
  intro T2001 q
  obtain ⟨R, q⟩ := q_wA R q rfl
  replace h := q_ltw h q
  refine ⟨_, q_p2454 R, ?_⟩
  rw [q_l2454 R]
  obtain ⟨hi, h⟩ := q_in h
  refine ⟨hi, ?_⟩
  intro T2003 q
  obtain ⟨R, q⟩ := q_wI R q rfl rfl
  replace h := q_ltw h q
  refine ⟨_, q_p2451 R, ?_⟩
  rw [q_l2451 R]
  obtain ⟨hi, h⟩ := q_in h
  refine ⟨hi, ?_⟩
  obtain ⟨v1, h1, h⟩ := q_bvi h
  refine b_X12_goes R h1 (fun T2005 R q => ?_)
  subst q
  obtain ⟨y2007, v1, h1, h⟩ := q_bdi h
  refine b_X12_burns R h1 (fun T2006 R q => ?_)
  subst q
  exact q_fin h kk R
def fX12_leavesEnsure_b97 (x1 : Int32) (xn2 : Int32) (Sn : q_V) : Option (Int32 × q_V) :=
  if (xn2) < 0 ∨ 640 ≤ (xn2).toNatClampNeg then none else
  q_bd (fX12_closes x1 ((q_a Sn 2453 xn2.toNatClampNeg)) Sn) (fun y1003 T1002 =>
  if ¬ (y1003 = 0 ∨ y1003 = 1) then none else
  some (y1003, T1002))
theorem b_X12_leavesEnsure_b97 {g : q_G} {S0 : kp_S} {x1 : Int32} {xn2 : Int32} {Sn : kp_S} {post : Int32 → kp_S → Prop} {y : Int32} {v : q_V} (R : q_Gd 2 g S0 Sn)  (h : fX12_leavesEnsure_b97 x1 xn2 (q_w g Sn) = some (y, v)) (kk : ∀ S, q_Gd 2 g S0 S → v = q_w g S → post y S) : wX12_leavesEnsure_b97 (g 0 12 0) x1 xn2 Sn post := by
  unfold wX12_leavesEnsure_b97; unfold fX12_leavesEnsure_b97 at h
  refine ⟨_, q_p2453 R, ?_⟩
  rw [q_l2453 R]
  obtain ⟨hi, h⟩ := q_in h
  refine ⟨hi, ?_⟩
  obtain ⟨y1003, v1, h1, h⟩ := q_bdi h
  refine b_X12_closes R h1 (fun T1002 R q => ?_)
  subst q
  obtain ⟨hi, h⟩ := q_in h
  refine ⟨Classical.not_not.mp hi, ?_⟩
  exact q_fin h kk R
def fX12_leavesEnsure (x1 : Int32) (S : q_V) : Option (Int32 × q_V) :=
  if (x1) < 0 ∨ 240 ≤ (x1).toNatClampNeg then none else
  q_lt ((q_a S 2490 x1.toNatClampNeg) : Int32) (fun y2 =>
  if (x1) < 0 ∨ 240 ≤ (x1).toNatClampNeg then none else
  if (q_a S 2489 x1.toNatClampNeg) = 8 then
  q_bv (fX12_keepWay x1 S) (fun T6 =>
  if (x1) < 0 ∨ 240 ≤ (x1).toNatClampNeg then none else
  q_lt (q_sa T6 2489 ((upd (q_a T6 2489) (x1.toNatClampNeg) 9))) (fun T8 =>
  if (q_i T8 2481) = 4 then
  fX12_leavesEnsure_b52 x1 y2 ((q_i T8 2484)) x1 T8
  else
  fX12_leavesEnsure_b52 x1 y2 0 x1 T8))
  else
  if (x1) < 0 ∨ 240 ≤ (x1).toNatClampNeg then none else
  if (q_a S 2489 x1.toNatClampNeg) = 9 then
  q_bv (fX12_loses x1 S) (fun T4 =>
  fX12_leavesEnsure_b97 x1 y2 T4)
  else
  fX12_leavesEnsure_b97 x1 y2 S)
theorem b_X12_leavesEnsure {g : q_G} {S0 : kp_S} {x1 : Int32} {S : kp_S} {post : Int32 → kp_S → Prop} {y : Int32} {v : q_V} (R : q_Gd 2 g S0 S)  (h : fX12_leavesEnsure x1 (q_w g S) = some (y, v)) (kk : ∀ S, q_Gd 2 g S0 S → v = q_w g S → post y S) : wX12_leavesEnsure (g 0 12 0) x1 S post := by
  unfold wX12_leavesEnsure; unfold fX12_leavesEnsure at h
  refine ⟨_, q_p2490 R, ?_⟩
  rw [q_l2490 R]
  obtain ⟨hi, h⟩ := q_in h
  refine ⟨hi, ?_⟩
  intro y2 q
  replace h := q_ltw h q
  refine ⟨_, q_p2489 R, ?_⟩
  rw [q_l2489 R]
  obtain ⟨hi, h⟩ := q_in h
  refine ⟨hi, ?_⟩
  refine ⟨fun c => ?_, fun c => ?_⟩
  · replace h := q_ifn h c
    obtain ⟨hi, h⟩ := q_in h
    refine ⟨hi, ?_⟩
    refine ⟨fun c => ?_, fun c => ?_⟩
    · replace h := q_ifn h c
      exact b_X12_leavesEnsure_b97 R h kk
    · replace h := q_ifp h c
      obtain ⟨v1, h1, h⟩ := q_bvi h
      refine b_X12_loses R h1 (fun T4 R q => ?_)
      subst q
      exact b_X12_leavesEnsure_b97 R h kk
  · replace h := q_ifp h c
    obtain ⟨v1, h1, h⟩ := q_bvi h
    refine b_X12_keepWay R h1 (fun T6 R q => ?_)
    subst q
    refine ⟨_, q_p2489 R, ?_⟩
    rw [q_l2489 R]
    obtain ⟨hi, h⟩ := q_in h
    refine ⟨hi, ?_⟩
    intro T8 q
    obtain ⟨R, q⟩ := q_wA R q rfl
    replace h := q_ltw h q
    refine ⟨_, q_p2491 R, ?_⟩
    refine ⟨fun c => ?_, fun c => ?_⟩
    · replace h := q_ifn h c
      exact b_X12_leavesEnsure_b52 R h kk
    · replace h := q_ifp h c
      exact b_X12_leavesEnsure_b52 R h kk
def fX12_leavesCall_b233 (x1 : Int32) (xn2 : Int32) (xt0 : Int32) (Sn : q_V) : Option (Int32 × q_V) :=
  q_bv (fX12_goes x1 xn2 Sn) (fun T1001 =>
  q_bv (fX12_push xt0 T1001) (fun T1002 =>
  some (0, T1002)))
theorem b_X12_leavesCall_b233 {g : q_G} {S0 : kp_S} {x1 : Int32} {xn2 : Int32} {xt0 : Int32} {Sn : kp_S} {post : Int32 → kp_S → Prop} {y : Int32} {v : q_V} (R : q_Gd 2 g S0 Sn)  (h : fX12_leavesCall_b233 x1 xn2 xt0 (q_w g Sn) = some (y, v)) (kk : ∀ S, q_Gd 2 g S0 S → v = q_w g S → post y S) : wX12_leavesCall_b233 (g 0 12 0) x1 xn2 xt0 Sn post := by
  unfold wX12_leavesCall_b233; unfold fX12_leavesCall_b233 at h
  obtain ⟨v1, h1, h⟩ := q_bvi h
  refine b_X12_goes R h1 (fun T1001 R q => ?_)
  subst q
  obtain ⟨v1, h1, h⟩ := q_bvi h
  refine b_X12_push R h1 (fun T1002 R q => ?_)
  subst q
  exact q_fin h kk R
def fX12_leavesCall_b195 (x1 : Int32) (xn2 : Int32) (xt0 : Int32) (Sn : q_V) : Option (Int32 × q_V) :=
  if ¬ (xt0 = 0 ∨ xt0 = 1) then none else
  q_lt (q_si Sn 2514 xt0) (fun T2001 =>
  if (q_i T2001 2514) = 0 then
  if (q_i T2001 2481) = 4 then
  some (1, T2001)
  else
  if (q_i T2001 2481) = 3 then
  fX12_leavesCall_b233 x1 xn2 ((q_i T2001 2483)) T2001
  else
  fX12_leavesCall_b233 x1 xn2 0 T2001
  else
  some (0, T2001))
theorem b_X12_leavesCall_b195 {g : q_G} {S0 : kp_S} {x1 : Int32} {xn2 : Int32} {xt0 : Int32} {Sn : kp_S} {post : Int32 → kp_S → Prop} {y : Int32} {v : q_V} (R : q_Gd 2 g S0 Sn)  (h : fX12_leavesCall_b195 x1 xn2 xt0 (q_w g Sn) = some (y, v)) (kk : ∀ S, q_Gd 2 g S0 S → v = q_w g S → post y S) : wX12_leavesCall_b195 (g 0 12 0) x1 xn2 xt0 (g 0 12 0) Sn post := by
  unfold wX12_leavesCall_b195; unfold fX12_leavesCall_b195 at h
  obtain ⟨hi, h⟩ := q_in h
  refine ⟨Classical.not_not.mp hi, ?_⟩
  intro T2001 q
  obtain ⟨R, q⟩ := q_wI R q rfl rfl
  replace h := q_ltw h q
  refine ⟨fun c => ?_, fun c => ?_⟩
  · replace h := q_ifp h c
    refine ⟨fun c => ?_, fun c => ?_⟩
    · replace h := q_ifn h c
      refine ⟨fun c => ?_, fun c => ?_⟩
      · replace h := q_ifn h c
        exact b_X12_leavesCall_b233 R h kk
      · replace h := q_ifp h c
        exact b_X12_leavesCall_b233 R h kk
    · replace h := q_ifp h c
      exact q_fin h kk R
  · replace h := q_ifn h c
    exact q_fin h kk R
def fX12_leavesCall_b130 (x1 : Int32) (xn2 : Int32) (xt0 : Int32) (xt1 : Int32) (Sn : q_V) : Option (Int32 × q_V) :=
  if (xt1) < 0 ∨ 240 ≤ (xt1).toNatClampNeg then none else
  q_lt (q_sa Sn 2491 ((upd (q_a Sn 2491) (xt1.toNatClampNeg) xt0))) (fun T3001 =>
  if (xn2) < 0 ∨ 520 ≤ (xn2).toNatClampNeg then none else
  q_bv (fX12_goes x1 ((q_a T3001 2507 xn2.toNatClampNeg)) T3001) (fun T3003 =>
  some (0, T3003)))
theorem b_X12_leavesCall_b130 {g : q_G} {S0 : kp_S} {x1 : Int32} {xn2 : Int32} {xt0 : Int32} {xt1 : Int32} {Sn : kp_S} {post : Int32 → kp_S → Prop} {y : Int32} {v : q_V} (R : q_Gd 2 g S0 Sn)  (h : fX12_leavesCall_b130 x1 xn2 xt0 xt1 (q_w g Sn) = some (y, v)) (kk : ∀ S, q_Gd 2 g S0 S → v = q_w g S → post y S) : wX12_leavesCall_b130 (g 0 12 0) x1 xn2 xt0 xt1 (g 1 2491 0) Sn post := by
  unfold wX12_leavesCall_b130; unfold fX12_leavesCall_b130 at h
  rw [q_l2491 R]
  obtain ⟨hi, h⟩ := q_in h
  refine ⟨hi, ?_⟩
  intro T3001 q
  obtain ⟨R, q⟩ := q_wA R q rfl
  replace h := q_ltw h q
  refine ⟨_, q_p2507 R, ?_⟩
  rw [q_l2507 R]
  obtain ⟨hi, h⟩ := q_in h
  refine ⟨hi, ?_⟩
  obtain ⟨v1, h1, h⟩ := q_bvi h
  refine b_X12_goes R h1 (fun T3003 R q => ?_)
  subst q
  exact q_fin h kk R
def fX12_leavesCall_b31 (x1 : Int32) (Sn : q_V) : Option (Int32 × q_V) :=
  q_bv (fX12_keepWay x1 Sn) (fun T4001 =>
  if (x1) < 0 ∨ 240 ≤ (x1).toNatClampNeg then none else
  q_lt (q_sa T4001 2489 ((upd (q_a T4001 2489) (x1.toNatClampNeg) 7))) (fun T4003 =>
  if (q_i T4003 2501) < 0 ∨ 13 ≤ (q_i T4003 2501).toNatClampNeg then none else
  if (q_a T4003 2506 (q_i T4003 2501).toNatClampNeg) ≤ 0 then
  q_lt (q_si T4003 2487 x1) (fun T4005 =>
  if (q_i T4005 2501) < 0 ∨ 13 ≤ (q_i T4005 2501).toNatClampNeg then none else
  q_lt (q_si T4005 2511 ((q_a T4005 2503 (q_i T4005 2501).toNatClampNeg))) (fun T4007 =>
  if (q_i T4007 2501) < 0 ∨ 13 ≤ (q_i T4007 2501).toNatClampNeg then none else
  q_lt ((q_a T4007 2502 (q_i T4007 2501).toNatClampNeg) : Int32) (fun y4009 =>
  q_lt (q_si T4007 2501 (((q_i T4007 2501) - 1))) (fun T4010 =>
  if (q_i T4010 2501) = 0 then
  fX12_leavesCall_b195 x1 y4009 1 T4010
  else
  fX12_leavesCall_b195 x1 y4009 0 T4010))))
  else
  if (q_i T4003 2501) < 0 ∨ 13 ≤ (q_i T4003 2501).toNatClampNeg then none else
  if (q_i T4003 2501) < 0 ∨ 13 ≤ (q_i T4003 2501).toNatClampNeg then none else
  q_lt (q_sa T4003 2506 ((upd (q_a T4003 2506) ((q_i T4003 2501).toNatClampNeg) ((q_a T4003 2506 (q_i T4003 2501).toNatClampNeg) - 1)))) (fun T4012 =>
  if (q_i T4012 2501) < 0 ∨ 13 ≤ (q_i T4012 2501).toNatClampNeg then none else
  q_lt (((40 * (q_i T4012 2501)) + (q_a T4012 2506 (q_i T4012 2501).toNatClampNeg)) : Int32) (fun y4013 =>
  q_lt (q_si T4012 2476 (((q_i T4012 2476) + 1))) (fun T4014 =>
  if (y4013) < 0 ∨ 520 ≤ (y4013).toNatClampNeg then none else
  q_bv (fX12_note 10 ((q_a T4014 2508 y4013.toNatClampNeg)) T4014) (fun T4016 =>
  if (q_i T4016 2481) = 4 then
  fX12_leavesCall_b130 x1 y4013 ((q_i T4016 2484)) x1 T4016
  else
  fX12_leavesCall_b130 x1 y4013 0 x1 T4016))))))
theorem b_X12_leavesCall_b31 {g : q_G} {S0 : kp_S} {x1 : Int32} {Sn : kp_S} {post : Int32 → kp_S → Prop} {y : Int32} {v : q_V} (R : q_Gd 2 g S0 Sn)  (h : fX12_leavesCall_b31 x1 (q_w g Sn) = some (y, v)) (kk : ∀ S, q_Gd 2 g S0 S → v = q_w g S → post y S) : wX12_leavesCall_b31 (g 0 12 0) x1 Sn post := by
  unfold wX12_leavesCall_b31; unfold fX12_leavesCall_b31 at h
  obtain ⟨v1, h1, h⟩ := q_bvi h
  refine b_X12_keepWay R h1 (fun T4001 R q => ?_)
  subst q
  refine ⟨_, q_p2489 R, ?_⟩
  rw [q_l2489 R]
  obtain ⟨hi, h⟩ := q_in h
  refine ⟨hi, ?_⟩
  intro T4003 q
  obtain ⟨R, q⟩ := q_wA R q rfl
  replace h := q_ltw h q
  refine ⟨_, q_p2506 R, ?_⟩
  rw [q_l2506 R]
  obtain ⟨hi, h⟩ := q_in h
  refine ⟨hi, ?_⟩
  refine ⟨fun c => ?_, fun c => ?_⟩
  · replace h := q_ifp h c
    intro T4005 q
    obtain ⟨R, q⟩ := q_wI R q rfl rfl
    replace h := q_ltw h q
    refine ⟨_, q_p2503 R, ?_⟩
    rw [q_l2503 R]
    obtain ⟨hi, h⟩ := q_in h
    refine ⟨hi, ?_⟩
    intro T4007 q
    obtain ⟨R, q⟩ := q_wI R q rfl rfl
    replace h := q_ltw h q
    refine ⟨_, q_p2502 R, ?_⟩
    rw [q_l2502 R]
    obtain ⟨hi, h⟩ := q_in h
    refine ⟨hi, ?_⟩
    intro y4009 q
    replace h := q_ltw h q
    intro T4010 q
    obtain ⟨R, q⟩ := q_wI R q rfl rfl
    replace h := q_ltw h q
    refine ⟨fun c => ?_, fun c => ?_⟩
    · replace h := q_ifn h c
      exact b_X12_leavesCall_b195 R h kk
    · replace h := q_ifp h c
      exact b_X12_leavesCall_b195 R h kk
  · replace h := q_ifn h c
    obtain ⟨hi, h⟩ := q_in h
    refine ⟨hi, ?_⟩
    obtain ⟨hi, h⟩ := q_in h
    refine ⟨hi, ?_⟩
    intro T4012 q
    obtain ⟨R, q⟩ := q_wA R q rfl
    replace h := q_ltw h q
    rw [q_l2506 R]
    obtain ⟨hi, h⟩ := q_in h
    refine ⟨hi, ?_⟩
    intro y4013 q
    replace h := q_ltw h q
    intro T4014 q
    obtain ⟨R, q⟩ := q_wI R q rfl rfl
    replace h := q_ltw h q
    refine ⟨_, q_p2508 R, ?_⟩
    rw [q_l2508 R]
    obtain ⟨hi, h⟩ := q_in h
    refine ⟨hi, ?_⟩
    obtain ⟨v1, h1, h⟩ := q_bvi h
    refine b_X12_note R h1 (fun T4016 R q => ?_)
    subst q
    refine ⟨_, q_p2491 R, ?_⟩
    refine ⟨fun c => ?_, fun c => ?_⟩
    · replace h := q_ifn h c
      exact b_X12_leavesCall_b130 R h kk
    · replace h := q_ifp h c
      exact b_X12_leavesCall_b130 R h kk
def fX12_leavesCall (x1 : Int32) (S : q_V) : Option (Int32 × q_V) :=
  if (x1) < 0 ∨ 240 ≤ (x1).toNatClampNeg then none else
  if (q_a S 2489 x1.toNatClampNeg) = 7 then
  if (q_i S 2481) = 0 then
  q_bv (fX12_takeWay x1 S) (fun T3 =>
  fX12_leavesCall_b31 x1 T3)
  else
  q_bv (fX12_loses x1 S) (fun T2 =>
  fX12_leavesCall_b31 x1 T2)
  else
  fX12_leavesCall_b31 x1 S
theorem b_X12_leavesCall {g : q_G} {S0 : kp_S} {x1 : Int32} {S : kp_S} {post : Int32 → kp_S → Prop} {y : Int32} {v : q_V} (R : q_Gd 2 g S0 S)  (h : fX12_leavesCall x1 (q_w g S) = some (y, v)) (kk : ∀ S, q_Gd 2 g S0 S → v = q_w g S → post y S) : wX12_leavesCall (g 0 12 0) x1 S post := by
  unfold wX12_leavesCall; unfold fX12_leavesCall at h
  refine ⟨_, q_p2489 R, ?_⟩
  rw [q_l2489 R]
  obtain ⟨hi, h⟩ := q_in h
  refine ⟨hi, ?_⟩
  refine ⟨fun c => ?_, fun c => ?_⟩
  · replace h := q_ifn h c
    exact b_X12_leavesCall_b31 R h kk
  · replace h := q_ifp h c
    refine ⟨fun c => ?_, fun c => ?_⟩
    · replace h := q_ifn h c
      obtain ⟨v1, h1, h⟩ := q_bvi h
      refine b_X12_loses R h1 (fun T2 R q => ?_)
      subst q
      exact b_X12_leavesCall_b31 R h kk
    · replace h := q_ifp h c
      obtain ⟨v1, h1, h⟩ := q_bvi h
      refine b_X12_takeWay R h1 (fun T3 R q => ?_)
      subst q
      exact b_X12_leavesCall_b31 R h kk
def fX12_leaves_b90 (xn1 : Int32) (K2 : Int32 → q_V → Option q_V) (Sn : q_V) : Option q_V :=
  K2 xn1 Sn
theorem b_X12_leaves_b90 {g : q_G} {S0 : kp_S} {xn1 : Int32} {K2f : Int32 → q_V → Option q_V} {K2 : Int32 → kp_S → Prop} {Sn : kp_S} {post : kp_S → Prop} {v : q_V} (R : q_Gd 2 g S0 Sn) (hK2 : ∀ (x0 : Int32) (S : kp_S), q_Gd 2 g S0 S → K2f x0 (q_w g S) = some v → K2 x0 S) (h : fX12_leaves_b90 xn1 K2f (q_w g Sn) = some v) (kk : ∀ S, q_Gd 2 g S0 S → v = q_w g S → post S) : wX12_leaves_b90 (g 0 12 0) xn1 K2 Sn post := by
  unfold wX12_leaves_b90; unfold fX12_leaves_b90 at h
  exact hK2 _ _ R h
def fX12_leaves_L2  : Nat → Int32 → q_V → Option q_V
  | 0, _, _ => none
  | n + 1, xn1, Sn =>
  if xn1 = 0 then
  some Sn
  else
  q_lt (((q_i Sn 2487) - 1) : Int32) (fun y2001 =>
  if (y2001) < 0 ∨ 240 ≤ (y2001).toNatClampNeg then none else
  q_lt ((q_a Sn 2488 y2001.toNatClampNeg) : Int32) (fun y2003 =>
  if y2003 = 2 then
  q_bd (fX12_leavesHold y2001 Sn) (fun y2006 T2005 =>
  fX12_leaves_b90 y2006 (fun xn1_ S_ => fX12_leaves_L2 n xn1_ S_) T2005)
  else
  if y2003 = 3 then
  q_bd (fX12_leavesLoop y2001 Sn) (fun y2009 T2008 =>
  fX12_leaves_b90 y2009 (fun xn1_ S_ => fX12_leaves_L2 n xn1_ S_) T2008)
  else
  if y2003 = 4 then
  q_bd (fX12_leavesTrial y2001 Sn) (fun y2012 T2011 =>
  fX12_leaves_b90 y2012 (fun xn1_ S_ => fX12_leaves_L2 n xn1_ S_) T2011)
  else
  if y2003 = 5 then
  q_bd (fX12_leavesEnsure y2001 Sn) (fun y2015 T2014 =>
  fX12_leaves_b90 y2015 (fun xn1_ S_ => fX12_leaves_L2 n xn1_ S_) T2014)
  else
  q_bd (fX12_leavesCall y2001 Sn) (fun y2017 T2016 =>
  fX12_leaves_b90 y2017 (fun xn1_ S_ => fX12_leaves_L2 n xn1_ S_) T2016)))
theorem b_X12_leaves_L2 {g : q_G} {S0 : kp_S} {post : kp_S → Prop} {v : q_V}  (kk : ∀ S, q_Gd 2 g S0 S → v = q_w g S → post S) : ∀ (n : Nat) (xn1 : Int32) (Sn : kp_S), q_Gd 2 g S0 Sn → fX12_leaves_L2  n xn1 (q_w g Sn) = some v → wX12_leaves_L2 (g 0 12 0) post n xn1 Sn := by
  intro n
  induction n with
  | zero => intro xn1 Sn _ h; cases h
  | succ n ih =>
    intro xn1 Sn R h
    unfold wX12_leaves_L2; unfold fX12_leaves_L2 at h
    refine ⟨fun c => ?_, fun c => ?_⟩
    · replace h := q_ifp h c
      exact q_finv h kk R
    · replace h := q_ifn h c
      intro y2001 q
      replace h := q_ltw h q
      refine ⟨_, q_p2488 R, ?_⟩
      rw [q_l2488 R]
      obtain ⟨hi, h⟩ := q_in h
      refine ⟨hi, ?_⟩
      intro y2003 q
      replace h := q_ltw h q
      refine ⟨fun c => ?_, fun c => ?_⟩
      · replace h := q_ifp h c
        obtain ⟨y2006, v1, h1, h⟩ := q_bdi h
        refine b_X12_leavesHold R h1 (fun T2005 R q => ?_)
        subst q
        exact b_X12_leaves_b90 R (fun xn1_ S_ R h => ih xn1_ S_ R h) h kk
      · replace h := q_ifn h c
        refine ⟨fun c => ?_, fun c => ?_⟩
        · replace h := q_ifp h c
          obtain ⟨y2009, v1, h1, h⟩ := q_bdi h
          refine b_X12_leavesLoop R h1 (fun T2008 R q => ?_)
          subst q
          exact b_X12_leaves_b90 R (fun xn1_ S_ R h => ih xn1_ S_ R h) h kk
        · replace h := q_ifn h c
          refine ⟨fun c => ?_, fun c => ?_⟩
          · replace h := q_ifp h c
            obtain ⟨y2012, v1, h1, h⟩ := q_bdi h
            refine b_X12_leavesTrial R h1 (fun T2011 R q => ?_)
            subst q
            exact b_X12_leaves_b90 R (fun xn1_ S_ R h => ih xn1_ S_ R h) h kk
          · replace h := q_ifn h c
            refine ⟨fun c => ?_, fun c => ?_⟩
            · replace h := q_ifp h c
              obtain ⟨y2015, v1, h1, h⟩ := q_bdi h
              refine b_X12_leavesEnsure R h1 (fun T2014 R q => ?_)
              subst q
              exact b_X12_leaves_b90 R (fun xn1_ S_ R h => ih xn1_ S_ R h) h kk
            · replace h := q_ifn h c
              obtain ⟨y2017, v1, h1, h⟩ := q_bdi h
              refine b_X12_leavesCall R h1 (fun T2016 R q => ?_)
              subst q
              exact b_X12_leaves_b90 R (fun xn1_ S_ R h => ih xn1_ S_ R h) h kk
def fX12_leaves (S : q_V) : Option q_V :=
  fX12_leaves_L2 q_N 1 S
theorem b_X12_leaves {g : q_G} {S0 : kp_S} {S : kp_S} {post : kp_S → Prop} {v : q_V} (R : q_Gd 2 g S0 S)  (h : fX12_leaves (q_w g S) = some v) (kk : ∀ S, q_Gd 2 g S0 S → v = q_w g S → post S) : wX12_leaves (g 0 12 0) S post := by
  unfold wX12_leaves; unfold fX12_leaves at h
  exact ⟨q_N, b_X12_leaves_L2 kk q_N _ _ R h⟩
def fX12_trouble_b48 (x1 : Int32) (xn2 : Int32) (xt0 : Int32) (K17 : Int32 → q_V → Option q_V) (Sn : q_V) : Option q_V :=
  q_lt (q_si Sn 2485 xt0) (fun T1001 =>
  q_lt (xn2 + 1 : Int32) (fun y1002 =>
  K17 y1002 T1001))
theorem b_X12_trouble_b48 {g : q_G} {S0 : kp_S} {x1 : Int32} {xn2 : Int32} {xt0 : Int32} {K17f : Int32 → q_V → Option q_V} {K17 : Int32 → kp_S → Prop} {Sn : kp_S} {post : kp_S → Prop} {v : q_V} (R : q_Gd 2 g S0 Sn) (hK17 : ∀ (x0 : Int32) (S : kp_S), q_Gd 2 g S0 S → K17f x0 (q_w g S) = some v → K17 x0 S) (h : fX12_trouble_b48 x1 xn2 xt0 K17f (q_w g Sn) = some v) (kk : ∀ S, q_Gd 2 g S0 S → v = q_w g S → post S) : wX12_trouble_b48 (g 0 12 0) x1 xn2 xt0 (g 0 12 0) K17 Sn post := by
  unfold wX12_trouble_b48; unfold fX12_trouble_b48 at h
  intro T1001 q
  obtain ⟨R, q⟩ := q_wI R q rfl rfl
  replace h := q_ltw h q
  intro y1002 q
  replace h := q_ltw h q
  exact hK17 _ _ R h
def fX12_trouble_L17 (x1 : Int32) : Nat → Int32 → q_V → Option q_V
  | 0, _, _ => none
  | n + 1, xn2, Sn =>
  if (q_i Sn 2487) ≤ xn2 then
  q_lt (q_si Sn 2486 ((q_i Sn 2511))) (fun T2001 =>
  q_lt (q_si T2001 2477 (((q_i T2001 2477) + 1))) (fun T2002 =>
  q_bv (fX12_note 7 x1 T2002) (fun T2003 =>
  q_bv (fX12_leaves T2003) (fun T2004 =>
  some T2004))))
  else
  if (xn2) < 0 ∨ 240 ≤ (xn2).toNatClampNeg then none else
  if (q_a Sn 2491 xn2.toNatClampNeg) ≤ 0 then
  fX12_trouble_b48 x1 xn2 ((q_i Sn 2485)) (fun xn2_ S_ => fX12_trouble_L17 x1 n xn2_ S_) Sn
  else
  if (xn2) < 0 ∨ 240 ≤ (xn2).toNatClampNeg then none else
  fX12_trouble_b48 x1 xn2 ((q_a Sn 2491 xn2.toNatClampNeg)) (fun xn2_ S_ => fX12_trouble_L17 x1 n xn2_ S_) Sn
theorem b_X12_trouble_L17 {g : q_G} {S0 : kp_S} {x1 : Int32} {post : kp_S → Prop} {v : q_V}  (kk : ∀ S, q_Gd 2 g S0 S → v = q_w g S → post S) : ∀ (n : Nat) (xn2 : Int32) (Sn : kp_S), q_Gd 2 g S0 Sn → fX12_trouble_L17 x1 n xn2 (q_w g Sn) = some v → wX12_trouble_L17 (g 0 12 0) x1 post n xn2 Sn := by
  intro n
  induction n with
  | zero => intro xn2 Sn _ h; cases h
  | succ n ih =>
    intro xn2 Sn R h
    unfold wX12_trouble_L17; unfold fX12_trouble_L17 at h
    refine ⟨fun c => ?_, fun c => ?_⟩
    · replace h := q_ifp h c
      intro T2001 q
      obtain ⟨R, q⟩ := q_wI R q rfl rfl
      replace h := q_ltw h q
      intro T2002 q
      obtain ⟨R, q⟩ := q_wI R q rfl rfl
      replace h := q_ltw h q
      obtain ⟨v1, h1, h⟩ := q_bvi h
      refine b_X12_note R h1 (fun T2003 R q => ?_)
      subst q
      obtain ⟨v1, h1, h⟩ := q_bvi h
      refine b_X12_leaves R h1 (fun T2004 R q => ?_)
      subst q
      exact q_finv h kk R
    · replace h := q_ifn h c
      refine ⟨_, q_p2491 R, ?_⟩
      rw [q_l2491 R]
      obtain ⟨hi, h⟩ := q_in h
      refine ⟨hi, ?_⟩
      refine ⟨fun c => ?_, fun c => ?_⟩
      · replace h := q_ifp h c
        exact b_X12_trouble_b48 R (fun xn2_ S_ R h => ih xn2_ S_ R h) h kk
      · replace h := q_ifn h c
        obtain ⟨hi, h⟩ := q_in h
        refine ⟨hi, ?_⟩
        exact b_X12_trouble_b48 R (fun xn2_ S_ R h => ih xn2_ S_ R h) h kk
def fX12_trouble (x1 : Int32) (S : q_V) : Option q_V :=
  q_lt (q_si S 2481 4) (fun T1 =>
  q_lt (q_si T1 2484 x1) (fun T2 =>
  q_lt (q_si T2 2485 0) (fun T3 =>
  fX12_trouble_L17 x1 q_N 0 T3)))
theorem b_X12_trouble {g : q_G} {S0 : kp_S} {x1 : Int32} {S : kp_S} {post : kp_S → Prop} {v : q_V} (R : q_Gd 2 g S0 S)  (h : fX12_trouble x1 (q_w g S) = some v) (kk : ∀ S, q_Gd 2 g S0 S → v = q_w g S → post S) : wX12_trouble (g 0 12 0) x1 S post := by
  unfold wX12_trouble; unfold fX12_trouble at h
  intro T1 q
  obtain ⟨R, q⟩ := q_wI R q rfl rfl
  replace h := q_ltw h q
  intro T2 q
  obtain ⟨R, q⟩ := q_wI R q rfl rfl
  replace h := q_ltw h q
  intro T3 q
  obtain ⟨R, q⟩ := q_wI R q rfl rfl
  replace h := q_ltw h q
  exact ⟨q_N, b_X12_trouble_L17 kk q_N _ _ R h⟩
def fX12_ensures (x1 : Int32) (S : q_V) : Option q_V :=
  if x1 = 0 then
  q_bv (fX12_trouble 10 S) (fun T5 =>
  some T5)
  else
  q_bv (fX12_takeWay (((q_i S 2487) - 1)) S) (fun T1 =>
  if ((q_i T1 2487) - 1) < 0 ∨ 240 ≤ ((q_i T1 2487) - 1).toNatClampNeg then none else
  q_lt (q_sa T1 2489 ((upd (q_a T1 2489) (((q_i T1 2487) - 1).toNatClampNeg) 10))) (fun T3 =>
  q_bv (fX12_leaves T3) (fun T4 =>
  some T4)))
theorem b_X12_ensures {g : q_G} {S0 : kp_S} {x1 : Int32} {S : kp_S} {post : kp_S → Prop} {v : q_V} (R : q_Gd 2 g S0 S)  (h : fX12_ensures x1 (q_w g S) = some v) (kk : ∀ S, q_Gd 2 g S0 S → v = q_w g S → post S) : wX12_ensures (g 0 12 0) x1 S post := by
  unfold wX12_ensures; unfold fX12_ensures at h
  refine ⟨fun c => ?_, fun c => ?_⟩
  · replace h := q_ifn h c
    obtain ⟨v1, h1, h⟩ := q_bvi h
    refine b_X12_takeWay R h1 (fun T1 R q => ?_)
    subst q
    refine ⟨_, q_p2489 R, ?_⟩
    rw [q_l2489 R]
    obtain ⟨hi, h⟩ := q_in h
    refine ⟨hi, ?_⟩
    intro T3 q
    obtain ⟨R, q⟩ := q_wA R q rfl
    replace h := q_ltw h q
    obtain ⟨v1, h1, h⟩ := q_bvi h
    refine b_X12_leaves R h1 (fun T4 R q => ?_)
    subst q
    exact q_finv h kk R
  · replace h := q_ifp h c
    obtain ⟨v1, h1, h⟩ := q_bvi h
    refine b_X12_trouble R h1 (fun T5 R q => ?_)
    subst q
    exact q_finv h kk R
def fX12_calls_b94 (x1 : Int32) (x2 : Int32) (xn3 : Int32) (xt0 : Int32) (xt1 : Int32) (K55 : Int32 → q_V → Option q_V) (Sn : q_V) : Option q_V :=
  if (xt1) < 0 ∨ 312 ≤ (xt1).toNatClampNeg then none else
  q_lt (q_sa Sn 2509 ((upd (q_a Sn 2509) (xt1.toNatClampNeg) xt0))) (fun T1001 =>
  q_lt (xn3 + 1 : Int32) (fun y1002 =>
  K55 y1002 T1001))
theorem b_X12_calls_b94 {g : q_G} {S0 : kp_S} {x1 : Int32} {x2 : Int32} {xn3 : Int32} {xt0 : Int32} {xt1 : Int32} {K55f : Int32 → q_V → Option q_V} {K55 : Int32 → kp_S → Prop} {Sn : kp_S} {post : kp_S → Prop} {v : q_V} (R : q_Gd 2 g S0 Sn) (hK55 : ∀ (x0 : Int32) (S : kp_S), q_Gd 2 g S0 S → K55f x0 (q_w g S) = some v → K55 x0 S) (h : fX12_calls_b94 x1 x2 xn3 xt0 xt1 K55f (q_w g Sn) = some v) (kk : ∀ S, q_Gd 2 g S0 S → v = q_w g S → post S) : wX12_calls_b94 (g 0 12 0) x1 x2 xn3 xt0 xt1 (g 1 2509 0) K55 Sn post := by
  unfold wX12_calls_b94; unfold fX12_calls_b94 at h
  rw [q_l2509 R]
  obtain ⟨hi, h⟩ := q_in h
  refine ⟨hi, ?_⟩
  intro T1001 q
  obtain ⟨R, q⟩ := q_wA R q rfl
  replace h := q_ltw h q
  intro y1002 q
  replace h := q_ltw h q
  exact hK55 _ _ R h
def fX12_calls_L55 (x1 : Int32) (x2 : Int32) : Nat → Int32 → q_V → Option q_V
  | 0, _, _ => none
  | n + 1, xn3, Sn =>
  if 24 ≤ xn3 then
  q_bv (fX12_opens 1 6 x1 Sn) (fun T2001 =>
  if (q_i T2001 2501) < 0 ∨ 13 ≤ (q_i T2001 2501).toNatClampNeg then none else
  q_lt (q_sa T2001 2502 ((upd (q_a T2001 2502) ((q_i T2001 2501).toNatClampNeg) (q_i T2001 2510)))) (fun T2003 =>
  if (q_i T2003 2501) < 0 ∨ 13 ≤ (q_i T2003 2501).toNatClampNeg then none else
  q_lt (q_sa T2003 2503 ((upd (q_a T2003 2503) ((q_i T2003 2501).toNatClampNeg) (q_i T2003 2511)))) (fun T2005 =>
  if (q_i T2005 2501) < 0 ∨ 13 ≤ (q_i T2005 2501).toNatClampNeg then none else
  q_lt (q_sa T2005 2504 ((upd (q_a T2005 2504) ((q_i T2005 2501).toNatClampNeg) 0))) (fun T2007 =>
  if (q_i T2007 2501) < 0 ∨ 13 ≤ (q_i T2007 2501).toNatClampNeg then none else
  q_lt (q_sa T2007 2505 ((upd (q_a T2007 2505) ((q_i T2007 2501).toNatClampNeg) 0))) (fun T2009 =>
  if (q_i T2009 2501) < 0 ∨ 13 ≤ (q_i T2009 2501).toNatClampNeg then none else
  q_lt (q_sa T2009 2506 ((upd (q_a T2009 2506) ((q_i T2009 2501).toNatClampNeg) 0))) (fun T2011 =>
  if (x1) < 0 ∨ 30 ≤ (x1).toNatClampNeg then none else
  q_lt (q_si T2011 2510 ((q_a T2011 2457 x1.toNatClampNeg))) (fun T2013 =>
  some T2013)))))))
  else
  if x2 ≤ xn3 then
  fX12_calls_b94 x1 x2 xn3 0 (((24 * (q_i Sn 2501)) + xn3)) (fun xn3_ S_ => fX12_calls_L55 x1 x2 n xn3_ S_) Sn
  else
  if ((q_i Sn 2516) + xn3) < 0 ∨ 4000 ≤ ((q_i Sn 2516) + xn3).toNatClampNeg then none else
  fX12_calls_b94 x1 x2 xn3 ((q_a Sn 2515 ((q_i Sn 2516) + xn3).toNatClampNeg)) (((24 * (q_i Sn 2501)) + xn3)) (fun xn3_ S_ => fX12_calls_L55 x1 x2 n xn3_ S_) Sn
theorem b_X12_calls_L55 {g : q_G} {S0 : kp_S} {x1 : Int32} {x2 : Int32} {post : kp_S → Prop} {v : q_V}  (kk : ∀ S, q_Gd 2 g S0 S → v = q_w g S → post S) : ∀ (n : Nat) (xn3 : Int32) (Sn : kp_S), q_Gd 2 g S0 Sn → fX12_calls_L55 x1 x2 n xn3 (q_w g Sn) = some v → wX12_calls_L55 (g 0 12 0) x1 x2 post n xn3 Sn := by
  intro n
  induction n with
  | zero => intro xn3 Sn _ h; cases h
  | succ n ih =>
    intro xn3 Sn R h
    unfold wX12_calls_L55; unfold fX12_calls_L55 at h
    refine ⟨fun c => ?_, fun c => ?_⟩
    · replace h := q_ifp h c
      obtain ⟨v1, h1, h⟩ := q_bvi h
      refine b_X12_opens R h1 (fun T2001 R q => ?_)
      subst q
      refine ⟨_, q_p2502 R, ?_⟩
      rw [q_l2502 R]
      obtain ⟨hi, h⟩ := q_in h
      refine ⟨hi, ?_⟩
      intro T2003 q
      obtain ⟨R, q⟩ := q_wA R q rfl
      replace h := q_ltw h q
      refine ⟨_, q_p2503 R, ?_⟩
      rw [q_l2503 R]
      obtain ⟨hi, h⟩ := q_in h
      refine ⟨hi, ?_⟩
      intro T2005 q
      obtain ⟨R, q⟩ := q_wA R q rfl
      replace h := q_ltw h q
      refine ⟨_, q_p2504 R, ?_⟩
      rw [q_l2504 R]
      obtain ⟨hi, h⟩ := q_in h
      refine ⟨hi, ?_⟩
      intro T2007 q
      obtain ⟨R, q⟩ := q_wA R q rfl
      replace h := q_ltw h q
      refine ⟨_, q_p2505 R, ?_⟩
      rw [q_l2505 R]
      obtain ⟨hi, h⟩ := q_in h
      refine ⟨hi, ?_⟩
      intro T2009 q
      obtain ⟨R, q⟩ := q_wA R q rfl
      replace h := q_ltw h q
      refine ⟨_, q_p2506 R, ?_⟩
      rw [q_l2506 R]
      obtain ⟨hi, h⟩ := q_in h
      refine ⟨hi, ?_⟩
      intro T2011 q
      obtain ⟨R, q⟩ := q_wA R q rfl
      replace h := q_ltw h q
      refine ⟨_, q_p2457 R, ?_⟩
      rw [q_l2457 R]
      obtain ⟨hi, h⟩ := q_in h
      refine ⟨hi, ?_⟩
      intro T2013 q
      obtain ⟨R, q⟩ := q_wI R q rfl rfl
      replace h := q_ltw h q
      exact q_finv h kk R
    · replace h := q_ifn h c
      refine ⟨_, q_p2509 R, ?_⟩
      refine ⟨fun c => ?_, fun c => ?_⟩
      · replace h := q_ifp h c
        exact b_X12_calls_b94 R (fun xn3_ S_ R h => ih xn3_ S_ R h) h kk
      · replace h := q_ifn h c
        refine ⟨_, q_p2515 R, ?_⟩
        rw [q_l2515 R]
        obtain ⟨hi, h⟩ := q_in h
        refine ⟨hi, ?_⟩
        exact b_X12_calls_b94 R (fun xn3_ S_ R h => ih xn3_ S_ R h) h kk
def fX12_calls (x1 : Int32) (x2 : Int32) (S : q_V) : Option q_V :=
  q_bd (fX12_burns S) (fun y2 T1 =>
  if y2 = 0 then
  some T1
  else
  if (q_i T1 2501) = 12 then
  q_bv (fX12_trouble 2 T1) (fun T6 =>
  some T6)
  else
  q_lt (q_si T1 2501 (((q_i T1 2501) + 1))) (fun T3 =>
  q_lt (q_si T3 2480 (((q_i T3 2480) + 1))) (fun T4 =>
  q_lt (q_si T4 2516 (((q_i T4 2516) - x2))) (fun T5 =>
  fX12_calls_L55 x1 x2 q_N 0 T5))))
theorem b_X12_calls {g : q_G} {S0 : kp_S} {x1 : Int32} {x2 : Int32} {S : kp_S} {post : kp_S → Prop} {v : q_V} (R : q_Gd 2 g S0 S)  (h : fX12_calls x1 x2 (q_w g S) = some v) (kk : ∀ S, q_Gd 2 g S0 S → v = q_w g S → post S) : wX12_calls (g 0 12 0) x1 x2 S post := by
  unfold wX12_calls; unfold fX12_calls at h
  obtain ⟨y2, v1, h1, h⟩ := q_bdi h
  refine b_X12_burns R h1 (fun T1 R q => ?_)
  subst q
  refine ⟨fun c => ?_, fun c => ?_⟩
  · replace h := q_ifn h c
    refine ⟨fun c => ?_, fun c => ?_⟩
    · replace h := q_ifn h c
      intro T3 q
      obtain ⟨R, q⟩ := q_wI R q rfl rfl
      replace h := q_ltw h q
      intro T4 q
      obtain ⟨R, q⟩ := q_wI R q rfl rfl
      replace h := q_ltw h q
      intro T5 q
      obtain ⟨R, q⟩ := q_wI R q rfl rfl
      replace h := q_ltw h q
      exact ⟨q_N, b_X12_calls_L55 kk q_N _ _ R h⟩
    · replace h := q_ifp h c
      obtain ⟨v1, h1, h⟩ := q_bvi h
      refine b_X12_trouble R h1 (fun T6 R q => ?_)
      subst q
      exact q_finv h kk R
  · replace h := q_ifp h c
    exact q_finv h kk R
def fX12_reckon_b213 (x1 : Int32) (Sn : q_V) : Option q_V :=
  some Sn
theorem b_X12_reckon_b213 {g : q_G} {S0 : kp_S} {x1 : Int32} {Sn : kp_S} {post : kp_S → Prop} {v : q_V} (R : q_Gd 2 g S0 Sn)  (h : fX12_reckon_b213 x1 (q_w g Sn) = some v) (kk : ∀ S, q_Gd 2 g S0 S → v = q_w g S → post S) : wX12_reckon_b213 (g 0 12 0) x1 Sn post := by
  unfold wX12_reckon_b213; unfold fX12_reckon_b213 at h
  exact q_finv h kk R
def fX12_reckon_b188 (x1 : Int32) (xt0 : Int32) (Sn : q_V) : Option q_V :=
  q_bv (fX12_push xt0 Sn) (fun T3001 =>
  fX12_reckon_b213 x1 T3001)
theorem b_X12_reckon_b188 {g : q_G} {S0 : kp_S} {x1 : Int32} {xt0 : Int32} {Sn : kp_S} {post : kp_S → Prop} {v : q_V} (R : q_Gd 2 g S0 Sn)  (h : fX12_reckon_b188 x1 xt0 (q_w g Sn) = some v) (kk : ∀ S, q_Gd 2 g S0 S → v = q_w g S → post S) : wX12_reckon_b188 (g 0 12 0) x1 xt0 (g 0 12 0) Sn post := by
  unfold wX12_reckon_b188; unfold fX12_reckon_b188 at h
  obtain ⟨v1, h1, h⟩ := q_bvi h
  refine b_X12_push R h1 (fun T3001 R q => ?_)
  subst q
  exact b_X12_reckon_b213 R h kk
def fX12_reckon_b210 (x1 : Int32) (xt0 : Int32) (Sn : q_V) : Option q_V :=
  q_bv (fX12_push xt0 Sn) (fun T2001 =>
  fX12_reckon_b213 x1 T2001)
theorem b_X12_reckon_b210 {g : q_G} {S0 : kp_S} {x1 : Int32} {xt0 : Int32} {Sn : kp_S} {post : kp_S → Prop} {v : q_V} (R : q_Gd 2 g S0 Sn)  (h : fX12_reckon_b210 x1 xt0 (q_w g Sn) = some v) (kk : ∀ S, q_Gd 2 g S0 S → v = q_w g S → post S) : wX12_reckon_b210 (g 0 12 0) x1 xt0 (g 0 12 0) Sn post := by
  unfold wX12_reckon_b210; unfold fX12_reckon_b210 at h
  obtain ⟨v1, h1, h⟩ := q_bvi h
  refine b_X12_push R h1 (fun T2001 R q => ?_)
  subst q
  exact b_X12_reckon_b213 R h kk
def fX12_reckon_b158 (x1 : Int32) (xn2 : Int32) (xn3 : Int32) (Sn : q_V) : Option q_V :=
  if xn2 = 0 then
  q_bv (fX12_trouble 1 Sn) (fun T4004 =>
  fX12_reckon_b213 x1 T4004)
  else
  if xn2 = (- 1) then
  if x1 = 10 then
  fX12_reckon_b188 x1 ((- xn3)) Sn
  else
  fX12_reckon_b188 x1 0 Sn
  else
  if x1 = 10 then
  if xn2 = 0 then none else
  fX12_reckon_b210 x1 ((xn3 / xn2)) Sn
  else
  if xn2 = 0 then none else
  fX12_reckon_b210 x1 ((xn3 - xn3 / xn2 * xn2)) Sn
theorem b_X12_reckon_b158 {g : q_G} {S0 : kp_S} {x1 : Int32} {xn2 : Int32} {xn3 : Int32} {Sn : kp_S} {post : kp_S → Prop} {v : q_V} (R : q_Gd 2 g S0 Sn)  (h : fX12_reckon_b158 x1 xn2 xn3 (q_w g Sn) = some v) (kk : ∀ S, q_Gd 2 g S0 S → v = q_w g S → post S) : wX12_reckon_b158 (g 0 12 0) x1 xn2 xn3 Sn post := by
  unfold wX12_reckon_b158; unfold fX12_reckon_b158 at h
  refine ⟨fun c => ?_, fun c => ?_⟩
  · replace h := q_ifn h c
    refine ⟨fun c => ?_, fun c => ?_⟩
    · replace h := q_ifn h c
      refine ⟨fun c => ?_, fun c => ?_⟩
      · replace h := q_ifn h c
        obtain ⟨hi, h⟩ := q_in h
        refine ⟨hi, ?_⟩
        exact b_X12_reckon_b210 R h kk
      · replace h := q_ifp h c
        obtain ⟨hi, h⟩ := q_in h
        refine ⟨hi, ?_⟩
        exact b_X12_reckon_b210 R h kk
    · replace h := q_ifp h c
      refine ⟨fun c => ?_, fun c => ?_⟩
      · replace h := q_ifn h c
        exact b_X12_reckon_b188 R h kk
      · replace h := q_ifp h c
        exact b_X12_reckon_b188 R h kk
  · replace h := q_ifp h c
    obtain ⟨v1, h1, h⟩ := q_bvi h
    refine b_X12_trouble R h1 (fun T4004 R q => ?_)
    subst q
    exact b_X12_reckon_b213 R h kk
def fX12_reckon_b101 (x1 : Int32) (xt0 : Int32) (Sn : q_V) : Option q_V :=
  q_bv (fX12_push xt0 Sn) (fun T5001 =>
  fX12_reckon_b213 x1 T5001)
theorem b_X12_reckon_b101 {g : q_G} {S0 : kp_S} {x1 : Int32} {xt0 : Int32} {Sn : kp_S} {post : kp_S → Prop} {v : q_V} (R : q_Gd 2 g S0 Sn)  (h : fX12_reckon_b101 x1 xt0 (q_w g Sn) = some v) (kk : ∀ S, q_Gd 2 g S0 S → v = q_w g S → post S) : wX12_reckon_b101 (g 0 12 0) x1 xt0 (g 0 12 0) Sn post := by
  unfold wX12_reckon_b101; unfold fX12_reckon_b101 at h
  obtain ⟨v1, h1, h⟩ := q_bvi h
  refine b_X12_push R h1 (fun T5001 R q => ?_)
  subst q
  exact b_X12_reckon_b213 R h kk
def fX12_reckon_b118 (x1 : Int32) (xt0 : Int32) (Sn : q_V) : Option q_V :=
  q_bv (fX12_push xt0 Sn) (fun T6001 =>
  fX12_reckon_b213 x1 T6001)
theorem b_X12_reckon_b118 {g : q_G} {S0 : kp_S} {x1 : Int32} {xt0 : Int32} {Sn : kp_S} {post : kp_S → Prop} {v : q_V} (R : q_Gd 2 g S0 Sn)  (h : fX12_reckon_b118 x1 xt0 (q_w g Sn) = some v) (kk : ∀ S, q_Gd 2 g S0 S → v = q_w g S → post S) : wX12_reckon_b118 (g 0 12 0) x1 xt0 (g 0 12 0) Sn post := by
  unfold wX12_reckon_b118; unfold fX12_reckon_b118 at h
  obtain ⟨v1, h1, h⟩ := q_bvi h
  refine b_X12_push R h1 (fun T6001 R q => ?_)
  subst q
  exact b_X12_reckon_b213 R h kk
def fX12_reckon_b135 (x1 : Int32) (xt0 : Int32) (Sn : q_V) : Option q_V :=
  q_bv (fX12_push xt0 Sn) (fun T7001 =>
  fX12_reckon_b213 x1 T7001)
theorem b_X12_reckon_b135 {g : q_G} {S0 : kp_S} {x1 : Int32} {xt0 : Int32} {Sn : kp_S} {post : kp_S → Prop} {v : q_V} (R : q_Gd 2 g S0 Sn)  (h : fX12_reckon_b135 x1 xt0 (q_w g Sn) = some v) (kk : ∀ S, q_Gd 2 g S0 S → v = q_w g S → post S) : wX12_reckon_b135 (g 0 12 0) x1 xt0 (g 0 12 0) Sn post := by
  unfold wX12_reckon_b135; unfold fX12_reckon_b135 at h
  obtain ⟨v1, h1, h⟩ := q_bvi h
  refine b_X12_push R h1 (fun T7001 R q => ?_)
  subst q
  exact b_X12_reckon_b213 R h kk
def fX12_reckon_b152 (x1 : Int32) (xt0 : Int32) (Sn : q_V) : Option q_V :=
  q_bv (fX12_push xt0 Sn) (fun T8001 =>
  fX12_reckon_b213 x1 T8001)
theorem b_X12_reckon_b152 {g : q_G} {S0 : kp_S} {x1 : Int32} {xt0 : Int32} {Sn : kp_S} {post : kp_S → Prop} {v : q_V} (R : q_Gd 2 g S0 Sn)  (h : fX12_reckon_b152 x1 xt0 (q_w g Sn) = some v) (kk : ∀ S, q_Gd 2 g S0 S → v = q_w g S → post S) : wX12_reckon_b152 (g 0 12 0) x1 xt0 (g 0 12 0) Sn post := by
  unfold wX12_reckon_b152; unfold fX12_reckon_b152 at h
  obtain ⟨v1, h1, h⟩ := q_bvi h
  refine b_X12_push R h1 (fun T8001 R q => ?_)
  subst q
  exact b_X12_reckon_b213 R h kk
def fX12_reckon (x1 : Int32) (S : q_V) : Option q_V :=
  q_bd (fX12_pop S) (fun y2 T1 =>
  q_bd (fX12_pop T1) (fun y4 T3 =>
  if x1 = 7 then
  q_bv (fX12_push ((y4 + y2)) T3) (fun T6 =>
  fX12_reckon_b213 x1 T6)
  else
  if x1 = 8 then
  q_bv (fX12_push ((y4 - y2)) T3) (fun T8 =>
  fX12_reckon_b213 x1 T8)
  else
  if x1 = 9 then
  q_bv (fX12_push ((y4 * y2)) T3) (fun T10 =>
  fX12_reckon_b213 x1 T10)
  else
  if x1 = 10 then
  fX12_reckon_b158 x1 y2 y4 T3
  else
  if x1 = 11 then
  fX12_reckon_b158 x1 y2 y4 T3
  else
  if x1 = 12 then
  if y4 = y2 then
  fX12_reckon_b101 x1 1 T3
  else
  fX12_reckon_b101 x1 0 T3
  else
  if x1 = 13 then
  if y4 = y2 then
  fX12_reckon_b118 x1 0 T3
  else
  fX12_reckon_b118 x1 1 T3
  else
  if x1 = 14 then
  if y2 ≤ y4 then
  fX12_reckon_b135 x1 0 T3
  else
  fX12_reckon_b135 x1 1 T3
  else
  if x1 = 15 then
  if y2 < y4 then
  fX12_reckon_b152 x1 0 T3
  else
  fX12_reckon_b152 x1 1 T3
  else
  fX12_reckon_b158 x1 y2 y4 T3))
theorem b_X12_reckon {g : q_G} {S0 : kp_S} {x1 : Int32} {S : kp_S} {post : kp_S → Prop} {v : q_V} (R : q_Gd 2 g S0 S)  (h : fX12_reckon x1 (q_w g S) = some v) (kk : ∀ S, q_Gd 2 g S0 S → v = q_w g S → post S) : wX12_reckon (g 0 12 0) x1 S post := by
  unfold wX12_reckon; unfold fX12_reckon at h
  obtain ⟨y2, v1, h1, h⟩ := q_bdi h
  refine b_X12_pop R h1 (fun T1 R q => ?_)
  subst q
  obtain ⟨y4, v1, h1, h⟩ := q_bdi h
  refine b_X12_pop R h1 (fun T3 R q => ?_)
  subst q
  refine ⟨fun c => ?_, fun c => ?_⟩
  · replace h := q_ifp h c
    obtain ⟨v1, h1, h⟩ := q_bvi h
    refine b_X12_push R h1 (fun T6 R q => ?_)
    subst q
    exact b_X12_reckon_b213 R h kk
  · replace h := q_ifn h c
    refine ⟨fun c => ?_, fun c => ?_⟩
    · replace h := q_ifp h c
      obtain ⟨v1, h1, h⟩ := q_bvi h
      refine b_X12_push R h1 (fun T8 R q => ?_)
      subst q
      exact b_X12_reckon_b213 R h kk
    · replace h := q_ifn h c
      refine ⟨fun c => ?_, fun c => ?_⟩
      · replace h := q_ifp h c
        obtain ⟨v1, h1, h⟩ := q_bvi h
        refine b_X12_push R h1 (fun T10 R q => ?_)
        subst q
        exact b_X12_reckon_b213 R h kk
      · replace h := q_ifn h c
        refine ⟨fun c => ?_, fun c => ?_⟩
        · replace h := q_ifp h c
          exact b_X12_reckon_b158 R h kk
        · replace h := q_ifn h c
          refine ⟨fun c => ?_, fun c => ?_⟩
          · replace h := q_ifp h c
            exact b_X12_reckon_b158 R h kk
          · replace h := q_ifn h c
            refine ⟨fun c => ?_, fun c => ?_⟩
            · replace h := q_ifp h c
              refine ⟨fun c => ?_, fun c => ?_⟩
              · replace h := q_ifn h c
                exact b_X12_reckon_b101 R h kk
              · replace h := q_ifp h c
                exact b_X12_reckon_b101 R h kk
            · replace h := q_ifn h c
              refine ⟨fun c => ?_, fun c => ?_⟩
              · replace h := q_ifp h c
                refine ⟨fun c => ?_, fun c => ?_⟩
                · replace h := q_ifp h c
                  exact b_X12_reckon_b118 R h kk
                · replace h := q_ifn h c
                  exact b_X12_reckon_b118 R h kk
              · replace h := q_ifn h c
                refine ⟨fun c => ?_, fun c => ?_⟩
                · replace h := q_ifp h c
                  refine ⟨fun c => ?_, fun c => ?_⟩
                  · replace h := q_ifp h c
                    exact b_X12_reckon_b135 R h kk
                  · replace h := q_ifn h c
                    exact b_X12_reckon_b135 R h kk
                · replace h := q_ifn h c
                  refine ⟨fun c => ?_, fun c => ?_⟩
                  · replace h := q_ifp h c
                    refine ⟨fun c => ?_, fun c => ?_⟩
                    · replace h := q_ifp h c
                      exact b_X12_reckon_b152 R h kk
                    · replace h := q_ifn h c
                      exact b_X12_reckon_b152 R h kk
                  · replace h := q_ifn h c
                    exact b_X12_reckon_b158 R h kk
def fX12_jumpIf (x1 : Int32) (x2 : Int32) (x3 : Int32) (S : q_V) : Option q_V :=
  if x1 = 0 then
  some S
  else
  q_bv (fX12_push x2 S) (fun T1 =>
  q_lt (q_si T1 2510 x3) (fun T2 =>
  some T2))
theorem b_X12_jumpIf {g : q_G} {S0 : kp_S} {x1 : Int32} {x2 : Int32} {x3 : Int32} {S : kp_S} {post : kp_S → Prop} {v : q_V} (R : q_Gd 2 g S0 S)  (h : fX12_jumpIf x1 x2 x3 (q_w g S) = some v) (kk : ∀ S, q_Gd 2 g S0 S → v = q_w g S → post S) : wX12_jumpIf (g 0 12 0) x1 x2 x3 S post := by
  unfold wX12_jumpIf; unfold fX12_jumpIf at h
  refine ⟨fun c => ?_, fun c => ?_⟩
  · replace h := q_ifn h c
    obtain ⟨v1, h1, h⟩ := q_bvi h
    refine b_X12_push R h1 (fun T1 R q => ?_)
    subst q
    intro T2 q
    obtain ⟨R, q⟩ := q_wI R q rfl rfl
    replace h := q_ltw h q
    exact q_finv h kk R
  · replace h := q_ifp h c
    exact q_finv h kk R
def fX12_answers_b72 (x1 : Int32) (x2 : Int32) (x3 : Int32) (xt0 : Int32) (Sn : q_V) : Option q_V :=
  q_bv (fX12_push xt0 Sn) (fun T1001 =>
  some T1001)
theorem b_X12_answers_b72 {g : q_G} {S0 : kp_S} {x1 : Int32} {x2 : Int32} {x3 : Int32} {xt0 : Int32} {Sn : kp_S} {post : kp_S → Prop} {v : q_V} (R : q_Gd 2 g S0 Sn)  (h : fX12_answers_b72 x1 x2 x3 xt0 (q_w g Sn) = some v) (kk : ∀ S, q_Gd 2 g S0 S → v = q_w g S → post S) : wX12_answers_b72 (g 0 12 0) x1 x2 x3 xt0 (g 0 12 0) Sn post := by
  unfold wX12_answers_b72; unfold fX12_answers_b72 at h
  obtain ⟨v1, h1, h⟩ := q_bvi h
  refine b_X12_push R h1 (fun T1001 R q => ?_)
  subst q
  exact q_finv h kk R
def fX12_answers (x1 : Int32) (x2 : Int32) (x3 : Int32) (S : q_V) : Option q_V :=
  q_bd (fX12_in x1 0 ((x2 - 1)) S) (fun y2 T1 =>
  if y2 = 0 then
  q_bv (fX12_trouble 3 T1) (fun T10 =>
  some T10)
  else
  if x3 = 20 then
  if (x1) < 0 ∨ 6 ≤ (x1).toNatClampNeg then none else
  fX12_answers_b72 x1 x2 x3 ((q_a T1 2463 x1.toNatClampNeg)) T1
  else
  if x3 = 21 then
  if (x1) < 0 ∨ 7 ≤ (x1).toNatClampNeg then none else
  fX12_answers_b72 x1 x2 x3 (((q_a T1 2466 x1.toNatClampNeg) / 10)) T1
  else
  if x3 = 23 then
  if (x1) < 0 ∨ 8 ≤ (x1).toNatClampNeg then none else
  fX12_answers_b72 x1 x2 x3 ((q_a T1 2467 x1.toNatClampNeg)) T1
  else
  if (x1) < 0 ∨ 6 ≤ (x1).toNatClampNeg then none else
  fX12_answers_b72 x1 x2 x3 ((q_a T1 2465 x1.toNatClampNeg)) T1)
theorem b_X12_answers {g : q_G} {S0 : kp_S} {x1 : Int32} {x2 : Int32} {x3 : Int32} {S : kp_S} {post : kp_S → Prop} {v : q_V} (R : q_Gd 2 g S0 S)  (h : fX12_answers x1 x2 x3 (q_w g S) = some v) (kk : ∀ S, q_Gd 2 g S0 S → v = q_w g S → post S) : wX12_answers (g 0 12 0) x1 x2 x3 S post := by
  unfold wX12_answers; unfold fX12_answers at h
  obtain ⟨y2, v1, h1, h⟩ := q_bdi h
  refine b_X12_in R h1 (fun T1 R q => ?_)
  subst q
  refine ⟨fun c => ?_, fun c => ?_⟩
  · replace h := q_ifn h c
    refine ⟨fun c => ?_, fun c => ?_⟩
    · replace h := q_ifn h c
      refine ⟨fun c => ?_, fun c => ?_⟩
      · replace h := q_ifn h c
        refine ⟨fun c => ?_, fun c => ?_⟩
        · replace h := q_ifn h c
          refine ⟨_, q_p2465 R, ?_⟩
          rw [q_l2465 R]
          obtain ⟨hi, h⟩ := q_in h
          refine ⟨hi, ?_⟩
          exact b_X12_answers_b72 R h kk
        · replace h := q_ifp h c
          refine ⟨_, q_p2467 R, ?_⟩
          rw [q_l2467 R]
          obtain ⟨hi, h⟩ := q_in h
          refine ⟨hi, ?_⟩
          exact b_X12_answers_b72 R h kk
      · replace h := q_ifp h c
        refine ⟨_, q_p2466 R, ?_⟩
        rw [q_l2466 R]
        obtain ⟨hi, h⟩ := q_in h
        refine ⟨hi, ?_⟩
        exact b_X12_answers_b72 R h kk
    · replace h := q_ifp h c
      refine ⟨_, q_p2463 R, ?_⟩
      rw [q_l2463 R]
      obtain ⟨hi, h⟩ := q_in h
      refine ⟨hi, ?_⟩
      exact b_X12_answers_b72 R h kk
  · replace h := q_ifp h c
    obtain ⟨v1, h1, h⟩ := q_bvi h
    refine b_X12_trouble R h1 (fun T10 R q => ?_)
    subst q
    exact q_finv h kk R
def fX12_answersGate_b28 (Sn : q_V) : Option q_V :=
  q_bv (fX12_trouble 3 Sn) (fun T1001 =>
  some T1001)
theorem b_X12_answersGate_b28 {g : q_G} {S0 : kp_S} {Sn : kp_S} {post : kp_S → Prop} {v : q_V} (R : q_Gd 2 g S0 Sn)  (h : fX12_answersGate_b28 (q_w g Sn) = some v) (kk : ∀ S, q_Gd 2 g S0 S → v = q_w g S → post S) : wX12_answersGate_b28 (g 0 12 0) Sn post := by
  unfold wX12_answersGate_b28; unfold fX12_answersGate_b28 at h
  obtain ⟨v1, h1, h⟩ := q_bvi h
  refine b_X12_trouble R h1 (fun T1001 R q => ?_)
  subst q
  exact q_finv h kk R
def fX12_answersGate_b53 (xt0 : Int32) (Sn : q_V) : Option q_V :=
  q_bv (fX12_push xt0 Sn) (fun T2001 =>
  some T2001)
theorem b_X12_answersGate_b53 {g : q_G} {S0 : kp_S} {xt0 : Int32} {Sn : kp_S} {post : kp_S → Prop} {v : q_V} (R : q_Gd 2 g S0 Sn)  (h : fX12_answersGate_b53 xt0 (q_w g Sn) = some v) (kk : ∀ S, q_Gd 2 g S0 S → v = q_w g S → post S) : wX12_answersGate_b53 (g 0 12 0) xt0 (g 0 12 0) Sn post := by
  unfold wX12_answersGate_b53; unfold fX12_answersGate_b53 at h
  obtain ⟨v1, h1, h⟩ := q_bvi h
  refine b_X12_push R h1 (fun T2001 R q => ?_)
  subst q
  exact q_finv h kk R
def fX12_answersGate (S : q_V) : Option q_V :=
  q_bd (fX12_pop S) (fun y2 T1 =>
  q_bd (fX12_pop T1) (fun y4 T3 =>
  q_bd (fX12_in y4 0 5 T3) (fun y6 T5 =>
  if y6 = 0 then
  fX12_answersGate_b28 T5
  else
  q_bd (fX12_in y2 0 1 T5) (fun y8 T7 =>
  if y8 = 0 then
  fX12_answersGate_b28 T7
  else
  if ((2 * y4) + y2) < 0 ∨ 12 ≤ ((2 * y4) + y2).toNatClampNeg then none else
  if (q_a T7 2464 ((2 * y4) + y2).toNatClampNeg) = 0 then
  fX12_answersGate_b53 0 T7
  else
  fX12_answersGate_b53 1 T7))))
theorem b_X12_answersGate {g : q_G} {S0 : kp_S} {S : kp_S} {post : kp_S → Prop} {v : q_V} (R : q_Gd 2 g S0 S)  (h : fX12_answersGate (q_w g S) = some v) (kk : ∀ S, q_Gd 2 g S0 S → v = q_w g S → post S) : wX12_answersGate (g 0 12 0) S post := by
  unfold wX12_answersGate; unfold fX12_answersGate at h
  obtain ⟨y2, v1, h1, h⟩ := q_bdi h
  refine b_X12_pop R h1 (fun T1 R q => ?_)
  subst q
  obtain ⟨y4, v1, h1, h⟩ := q_bdi h
  refine b_X12_pop R h1 (fun T3 R q => ?_)
  subst q
  obtain ⟨y6, v1, h1, h⟩ := q_bdi h
  refine b_X12_in R h1 (fun T5 R q => ?_)
  subst q
  refine ⟨fun c => ?_, fun c => ?_⟩
  · replace h := q_ifp h c
    exact b_X12_answersGate_b28 R h kk
  · replace h := q_ifn h c
    obtain ⟨y8, v1, h1, h⟩ := q_bdi h
    refine b_X12_in R h1 (fun T7 R q => ?_)
    subst q
    refine ⟨fun c => ?_, fun c => ?_⟩
    · replace h := q_ifn h c
      refine ⟨_, q_p2464 R, ?_⟩
      rw [q_l2464 R]
      obtain ⟨hi, h⟩ := q_in h
      refine ⟨hi, ?_⟩
      refine ⟨fun c => ?_, fun c => ?_⟩
      · replace h := q_ifp h c
        exact b_X12_answersGate_b53 R h kk
      · replace h := q_ifn h c
        exact b_X12_answersGate_b53 R h kk
    · replace h := q_ifp h c
      exact b_X12_answersGate_b28 R h kk
def fX12_chooses (x1 : Int32) (x2 : Int32) (S : q_V) : Option q_V :=
  if x1 = 0 then
  some S
  else
  q_lt (q_si S 2516 (((q_i S 2516) - 1))) (fun T1 =>
  q_lt (q_si T1 2510 x2) (fun T2 =>
  some T2))
theorem b_X12_chooses {g : q_G} {S0 : kp_S} {x1 : Int32} {x2 : Int32} {S : kp_S} {post : kp_S → Prop} {v : q_V} (R : q_Gd 2 g S0 S)  (h : fX12_chooses x1 x2 (q_w g S) = some v) (kk : ∀ S, q_Gd 2 g S0 S → v = q_w g S → post S) : wX12_chooses (g 0 12 0) x1 x2 S post := by
  unfold wX12_chooses; unfold fX12_chooses at h
  refine ⟨fun c => ?_, fun c => ?_⟩
  · replace h := q_ifn h c
    intro T1 q
    obtain ⟨R, q⟩ := q_wI R q rfl rfl
    replace h := q_ltw h q
    intro T2 q
    obtain ⟨R, q⟩ := q_wI R q rfl rfl
    replace h := q_ltw h q
    exact q_finv h kk R
  · replace h := q_ifp h c
    exact q_finv h kk R
def fX12_fails_b18 (x1 : Int32) (xt0 : Int32) (Sn : q_V) : Option q_V :=
  q_bv (fX12_trouble xt0 Sn) (fun T1001 =>
  some T1001)
theorem b_X12_fails_b18 {g : q_G} {S0 : kp_S} {x1 : Int32} {xt0 : Int32} {Sn : kp_S} {post : kp_S → Prop} {v : q_V} (R : q_Gd 2 g S0 Sn)  (h : fX12_fails_b18 x1 xt0 (q_w g Sn) = some v) (kk : ∀ S, q_Gd 2 g S0 S → v = q_w g S → post S) : wX12_fails_b18 (g 0 12 0) x1 xt0 (g 0 12 0) Sn post := by
  unfold wX12_fails_b18; unfold fX12_fails_b18 at h
  obtain ⟨v1, h1, h⟩ := q_bvi h
  refine b_X12_trouble R h1 (fun T1001 R q => ?_)
  subst q
  exact q_finv h kk R
def fX12_fails (x1 : Int32) (S : q_V) : Option q_V :=
  q_bd (fX12_in x1 10 99 S) (fun y2 T1 =>
  if y2 = 0 then
  fX12_fails_b18 x1 10 T1
  else
  fX12_fails_b18 x1 x1 T1)
theorem b_X12_fails {g : q_G} {S0 : kp_S} {x1 : Int32} {S : kp_S} {post : kp_S → Prop} {v : q_V} (R : q_Gd 2 g S0 S)  (h : fX12_fails x1 (q_w g S) = some v) (kk : ∀ S, q_Gd 2 g S0 S → v = q_w g S → post S) : wX12_fails (g 0 12 0) x1 S post := by
  unfold wX12_fails; unfold fX12_fails at h
  obtain ⟨y2, v1, h1, h⟩ := q_bdi h
  refine b_X12_in R h1 (fun T1 R q => ?_)
  subst q
  refine ⟨fun c => ?_, fun c => ?_⟩
  · replace h := q_ifp h c
    exact b_X12_fails_b18 R h kk
  · replace h := q_ifn h c
    exact b_X12_fails_b18 R h kk
def fX12_rounds_b55 (x1 : Int32) (x2 : Int32) (xt0 : Int32) (xt1 : Int32) (Sn : q_V) : Option q_V :=
  q_lt (q_si Sn 2473 ((xt1 + xt0))) (fun T1001 =>
  some T1001)
theorem b_X12_rounds_b55 {g : q_G} {S0 : kp_S} {x1 : Int32} {x2 : Int32} {xt0 : Int32} {xt1 : Int32} {Sn : kp_S} {post : kp_S → Prop} {v : q_V} (R : q_Gd 2 g S0 Sn)  (h : fX12_rounds_b55 x1 x2 xt0 xt1 (q_w g Sn) = some v) (kk : ∀ S, q_Gd 2 g S0 S → v = q_w g S → post S) : wX12_rounds_b55 (g 0 12 0) x1 x2 xt0 xt1 (g 0 12 0) Sn post := by
  unfold wX12_rounds_b55; unfold fX12_rounds_b55 at h
  intro T1001 q
  obtain ⟨R, q⟩ := q_wI R q rfl rfl
  replace h := q_ltw h q
  exact q_finv h kk R
def fX12_rounds (x1 : Int32) (x2 : Int32) (S : q_V) : Option q_V :=
  q_lt (((q_i S 2487) - 1) : Int32) (fun y1 =>
  if x2 = 0 then
  q_lt (q_si S 2487 y1) (fun T6 =>
  if (x1) < 0 ∨ 640 ≤ (x1).toNatClampNeg then none else
  q_bv (fX12_goes y1 ((q_a T6 2453 x1.toNatClampNeg)) T6) (fun T8 =>
  some T8))
  else
  if (y1) < 0 ∨ 240 ≤ (y1).toNatClampNeg then none else
  q_lt (q_sa S 2489 ((upd (q_a S 2489) (y1.toNatClampNeg) 1))) (fun T3 =>
  if (x1) < 0 ∨ 640 ≤ (x1).toNatClampNeg then none else
  if (q_a T3 2452 x1.toNatClampNeg) = (- 1) then
  fX12_rounds_b55 x1 x2 0 ((q_i T3 2473)) T3
  else
  fX12_rounds_b55 x1 x2 1 ((q_i T3 2473)) T3))
theorem b_X12_rounds {g : q_G} {S0 : kp_S} {x1 : Int32} {x2 : Int32} {S : kp_S} {post : kp_S → Prop} {v : q_V} (R : q_Gd 2 g S0 S)  (h : fX12_rounds x1 x2 (q_w g S) = some v) (kk : ∀ S, q_Gd 2 g S0 S → v = q_w g S → post S) : wX12_rounds (g 0 12 0) x1 x2 S post := by
  unfold wX12_rounds; unfold fX12_rounds at h
  intro y1 q
  replace h := q_ltw h q
  refine ⟨fun c => ?_, fun c => ?_⟩
  · replace h := q_ifn h c
    refine ⟨_, q_p2489 R, ?_⟩
    rw [q_l2489 R]
    obtain ⟨hi, h⟩ := q_in h
    refine ⟨hi, ?_⟩
    intro T3 q
    obtain ⟨R, q⟩ := q_wA R q rfl
    replace h := q_ltw h q
    refine ⟨_, q_p2452 R, ?_⟩
    rw [q_l2452 R]
    obtain ⟨hi, h⟩ := q_in h
    refine ⟨hi, ?_⟩
    refine ⟨fun c => ?_, fun c => ?_⟩
    · replace h := q_ifn h c
      exact b_X12_rounds_b55 R h kk
    · replace h := q_ifp h c
      exact b_X12_rounds_b55 R h kk
  · replace h := q_ifp h c
    intro T6 q
    obtain ⟨R, q⟩ := q_wI R q rfl rfl
    replace h := q_ltw h q
    refine ⟨_, q_p2453 R, ?_⟩
    rw [q_l2453 R]
    obtain ⟨hi, h⟩ := q_in h
    refine ⟨hi, ?_⟩
    obtain ⟨v1, h1, h⟩ := q_bvi h
    refine b_X12_goes R h1 (fun T8 R q => ?_)
    subst q
    exact q_finv h kk R
def fX12_beginsEach (x1 : Int32) (S : q_V) : Option q_V :=
  q_bd (fX12_pop S) (fun y2 T1 =>
  q_bd (fX12_pop T1) (fun y4 T3 =>
  q_bv (fX12_opens 3 0 x1 T3) (fun T5 =>
  if ((q_i T5 2487) - 1) < 0 ∨ 240 ≤ ((q_i T5 2487) - 1).toNatClampNeg then none else
  q_lt (q_sb T5 2493 ((vp_updL (q_b T5 2493) (((q_i T5 2487) - 1).toNatClampNeg) ((y4 : Int32).toInt64)))) (fun T7 =>
  if ((q_i T7 2487) - 1) < 0 ∨ 240 ≤ ((q_i T7 2487) - 1).toNatClampNeg then none else
  q_lt (q_sb T7 2494 ((vp_updL (q_b T7 2494) (((q_i T7 2487) - 1).toNatClampNeg) ((y2 : Int32).toInt64)))) (fun T9 =>
  some T9)))))
theorem b_X12_beginsEach {g : q_G} {S0 : kp_S} {x1 : Int32} {S : kp_S} {post : kp_S → Prop} {v : q_V} (R : q_Gd 2 g S0 S)  (h : fX12_beginsEach x1 (q_w g S) = some v) (kk : ∀ S, q_Gd 2 g S0 S → v = q_w g S → post S) : wX12_beginsEach (g 0 12 0) x1 S post := by
  unfold wX12_beginsEach; unfold fX12_beginsEach at h
  obtain ⟨y2, v1, h1, h⟩ := q_bdi h
  refine b_X12_pop R h1 (fun T1 R q => ?_)
  subst q
  obtain ⟨y4, v1, h1, h⟩ := q_bdi h
  refine b_X12_pop R h1 (fun T3 R q => ?_)
  subst q
  obtain ⟨v1, h1, h⟩ := q_bvi h
  refine b_X12_opens R h1 (fun T5 R q => ?_)
  subst q
  refine ⟨_, q_p2493 R, ?_⟩
  rw [q_l2493 R]
  obtain ⟨hi, h⟩ := q_in h
  refine ⟨hi, ?_⟩
  intro T7 q
  obtain ⟨R, q⟩ := q_wB R q rfl
  replace h := q_ltw h q
  refine ⟨_, q_p2494 R, ?_⟩
  rw [q_l2494 R]
  obtain ⟨hi, h⟩ := q_in h
  refine ⟨hi, ?_⟩
  intro T9 q
  obtain ⟨R, q⟩ := q_wB R q rfl
  replace h := q_ltw h q
  exact q_finv h kk R
def fX12_testsEach_b81 (x1 : Int32) (xn3 : Int32) (Sn : q_V) : Option q_V :=
  q_bv (fX12_rounds x1 xn3 Sn) (fun T1001 =>
  some T1001)
theorem b_X12_testsEach_b81 {g : q_G} {S0 : kp_S} {x1 : Int32} {xn3 : Int32} {Sn : kp_S} {post : kp_S → Prop} {v : q_V} (R : q_Gd 2 g S0 Sn)  (h : fX12_testsEach_b81 x1 xn3 (q_w g Sn) = some v) (kk : ∀ S, q_Gd 2 g S0 S → v = q_w g S → post S) : wX12_testsEach_b81 (g 0 12 0) x1 xn3 Sn post := by
  unfold wX12_testsEach_b81; unfold fX12_testsEach_b81 at h
  obtain ⟨v1, h1, h⟩ := q_bvi h
  refine b_X12_rounds R h1 (fun T1001 R q => ?_)
  subst q
  exact q_finv h kk R
def fX12_testsEach_b41 (x1 : Int32) (xn2 : Int32) (xn3 : Int32) (Sn : q_V) : Option q_V :=
  if xn3 = 0 then
  fX12_testsEach_b81 x1 xn3 Sn
  else
  if (x1) < 0 ∨ 640 ≤ (x1).toNatClampNeg then none else
  if (xn2) < 0 ∨ 240 ≤ (xn2).toNatClampNeg then none else
  if ((24 * (q_i Sn 2501)) + (q_a Sn 2455 x1.toNatClampNeg)) < 0 ∨ 312 ≤ ((24 * (q_i Sn 2501)) + (q_a Sn 2455 x1.toNatClampNeg)).toNatClampNeg then none else
  q_lt (q_sa Sn 2509 ((upd (q_a Sn 2509) (((24 * (q_i Sn 2501)) + (q_a Sn 2455 x1.toNatClampNeg)).toNatClampNeg) ((q_b Sn 2493 xn2.toNatClampNeg : Int64).toInt32)))) (fun T2004 =>
  if (xn2) < 0 ∨ 240 ≤ (xn2).toNatClampNeg then none else
  if (xn2) < 0 ∨ 240 ≤ (xn2).toNatClampNeg then none else
  q_lt (q_sb T2004 2493 ((vp_updL (q_b T2004 2493) (xn2.toNatClampNeg) ((q_b T2004 2493 xn2.toNatClampNeg) + 1)))) (fun T2005 =>
  fX12_testsEach_b81 x1 xn3 T2005))
theorem b_X12_testsEach_b41 {g : q_G} {S0 : kp_S} {x1 : Int32} {xn2 : Int32} {xn3 : Int32} {Sn : kp_S} {post : kp_S → Prop} {v : q_V} (R : q_Gd 2 g S0 Sn)  (h : fX12_testsEach_b41 x1 xn2 xn3 (q_w g Sn) = some v) (kk : ∀ S, q_Gd 2 g S0 S → v = q_w g S → post S) : wX12_testsEach_b41 (g 0 12 0) x1 xn2 xn3 Sn post := by
  unfold wX12_testsEach_b41; unfold fX12_testsEach_b41 at h
  refine ⟨fun c => ?_, fun c => ?_⟩
  · replace h := q_ifp h c
    exact b_X12_testsEach_b81 R h kk
  · replace h := q_ifn h c
    refine ⟨_, q_p2509 R, ?_⟩
    refine ⟨_, q_p2455 R, ?_⟩
    rw [q_l2455 R]
    obtain ⟨hi, h⟩ := q_in h
    refine ⟨hi, ?_⟩
    refine ⟨_, q_p2493 R, ?_⟩
    rw [q_l2493 R]
    obtain ⟨hi, h⟩ := q_in h
    refine ⟨hi, ?_⟩
    rw [q_l2509 R]
    obtain ⟨hi, h⟩ := q_in h
    refine ⟨hi, ?_⟩
    intro T2004 q
    obtain ⟨R, q⟩ := q_wA R q rfl
    replace h := q_ltw h q
    rw [q_l2493 R]
    obtain ⟨hi, h⟩ := q_in h
    refine ⟨hi, ?_⟩
    obtain ⟨hi, h⟩ := q_in h
    refine ⟨hi, ?_⟩
    intro T2005 q
    obtain ⟨R, q⟩ := q_wB R q rfl
    replace h := q_ltw h q
    exact b_X12_testsEach_b81 R h kk
def fX12_testsEach_b28 (x1 : Int32) (xn2 : Int32) (xt0 : Int32) (Sn : q_V) : Option q_V :=
  if xt0 = 0 then
  fX12_testsEach_b41 x1 xn2 xt0 Sn
  else
  q_bd (fX12_burns Sn) (fun y3002 T3001 =>
  if y3002 = 0 then
  some T3001
  else
  fX12_testsEach_b41 x1 xn2 xt0 T3001)
theorem b_X12_testsEach_b28 {g : q_G} {S0 : kp_S} {x1 : Int32} {xn2 : Int32} {xt0 : Int32} {Sn : kp_S} {post : kp_S → Prop} {v : q_V} (R : q_Gd 2 g S0 Sn)  (h : fX12_testsEach_b28 x1 xn2 xt0 (q_w g Sn) = some v) (kk : ∀ S, q_Gd 2 g S0 S → v = q_w g S → post S) : wX12_testsEach_b28 (g 0 12 0) x1 xn2 xt0 Sn post := by
  unfold wX12_testsEach_b28; unfold fX12_testsEach_b28 at h
  refine ⟨fun c => ?_, fun c => ?_⟩
  · replace h := q_ifp h c
    exact b_X12_testsEach_b41 R h kk
  · replace h := q_ifn h c
    obtain ⟨y3002, v1, h1, h⟩ := q_bdi h
    refine b_X12_burns R h1 (fun T3001 R q => ?_)
    subst q
    refine ⟨fun c => ?_, fun c => ?_⟩
    · replace h := q_ifn h c
      exact b_X12_testsEach_b41 R h kk
    · replace h := q_ifp h c
      exact q_finv h kk R
def fX12_testsEach (x1 : Int32) (S : q_V) : Option q_V :=
  q_lt (((q_i S 2487) - 1) : Int32) (fun y1 =>
  if (y1) < 0 ∨ 240 ≤ (y1).toNatClampNeg then none else
  if (y1) < 0 ∨ 240 ≤ (y1).toNatClampNeg then none else
  if 0 < (lg_cmp (q_b S 2493 y1.toNatClampNeg) (q_b S 2494 y1.toNatClampNeg)) then
  fX12_testsEach_b28 x1 y1 0 S
  else
  fX12_testsEach_b28 x1 y1 1 S)
theorem b_X12_testsEach {g : q_G} {S0 : kp_S} {x1 : Int32} {S : kp_S} {post : kp_S → Prop} {v : q_V} (R : q_Gd 2 g S0 S)  (h : fX12_testsEach x1 (q_w g S) = some v) (kk : ∀ S, q_Gd 2 g S0 S → v = q_w g S → post S) : wX12_testsEach (g 0 12 0) x1 S post := by
  unfold wX12_testsEach; unfold fX12_testsEach at h
  intro y1 q
  replace h := q_ltw h q
  refine ⟨_, q_p2493 R, ?_⟩
  rw [q_l2493 R]
  obtain ⟨hi, h⟩ := q_in h
  refine ⟨hi, ?_⟩
  refine ⟨_, q_p2494 R, ?_⟩
  rw [q_l2494 R]
  obtain ⟨hi, h⟩ := q_in h
  refine ⟨hi, ?_⟩
  refine ⟨fun c => ?_, fun c => ?_⟩
  · replace h := q_ifp h c
    exact b_X12_testsEach_b28 R h kk
  · replace h := q_ifn h c
    exact b_X12_testsEach_b28 R h kk
def fX12_takes_b51 (x1 : Int32) (x2 : Int32) (Sn : q_V) : Option q_V :=
  q_bv (fX12_opens 2 0 x1 Sn) (fun T1001 =>
  if ((q_i T1001 2487) - 1) < 0 ∨ 240 ≤ ((q_i T1001 2487) - 1).toNatClampNeg then none else
  q_lt (q_sb T1001 2493 ((vp_updL (q_b T1001 2493) (((q_i T1001 2487) - 1).toNatClampNeg) ((x2 : Int32).toInt64)))) (fun T1003 =>
  some T1003))
theorem b_X12_takes_b51 {g : q_G} {S0 : kp_S} {x1 : Int32} {x2 : Int32} {Sn : kp_S} {post : kp_S → Prop} {v : q_V} (R : q_Gd 2 g S0 Sn)  (h : fX12_takes_b51 x1 x2 (q_w g Sn) = some v) (kk : ∀ S, q_Gd 2 g S0 S → v = q_w g S → post S) : wX12_takes_b51 (g 0 12 0) x1 x2 Sn post := by
  unfold wX12_takes_b51; unfold fX12_takes_b51 at h
  obtain ⟨v1, h1, h⟩ := q_bvi h
  refine b_X12_opens R h1 (fun T1001 R q => ?_)
  subst q
  refine ⟨_, q_p2493 R, ?_⟩
  rw [q_l2493 R]
  obtain ⟨hi, h⟩ := q_in h
  refine ⟨hi, ?_⟩
  intro T1003 q
  obtain ⟨R, q⟩ := q_wB R q rfl
  replace h := q_ltw h q
  exact q_finv h kk R
def fX12_takes (x1 : Int32) (x2 : Int32) (S : q_V) : Option q_V :=
  q_bd (fX12_in x1 0 5 S) (fun y2 T1 =>
  if y2 = 0 then
  q_bv (fX12_trouble 3 T1) (fun T8 =>
  some T8)
  else
  if (x1) < 0 ∨ 6 ≤ (x1).toNatClampNeg then none else
  if (x1) < 0 ∨ 6 ≤ (x1).toNatClampNeg then none else
  q_lt (q_sa T1 2465 ((upd (q_a T1 2465) (x1.toNatClampNeg) ((q_a T1 2465 x1.toNatClampNeg) + 1)))) (fun T4 =>
  q_lt (q_si T4 2471 (((q_i T4 2471) + 1))) (fun T5 =>
  if (x1) < 0 ∨ 6 ≤ (x1).toNatClampNeg then none else
  if (q_a T5 2465 x1.toNatClampNeg) = 1 then
  q_bv (fX12_note 1 x1 T5) (fun T6 =>
  fX12_takes_b51 x1 x2 T6)
  else
  fX12_takes_b51 x1 x2 T5)))
theorem b_X12_takes {g : q_G} {S0 : kp_S} {x1 : Int32} {x2 : Int32} {S : kp_S} {post : kp_S → Prop} {v : q_V} (R : q_Gd 2 g S0 S)  (h : fX12_takes x1 x2 (q_w g S) = some v) (kk : ∀ S, q_Gd 2 g S0 S → v = q_w g S → post S) : wX12_takes (g 0 12 0) x1 x2 S post := by
  unfold wX12_takes; unfold fX12_takes at h
  obtain ⟨y2, v1, h1, h⟩ := q_bdi h
  refine b_X12_in R h1 (fun T1 R q => ?_)
  subst q
  refine ⟨fun c => ?_, fun c => ?_⟩
  · replace h := q_ifn h c
    refine ⟨_, q_p2465 R, ?_⟩
    rw [q_l2465 R]
    obtain ⟨hi, h⟩ := q_in h
    refine ⟨hi, ?_⟩
    obtain ⟨hi, h⟩ := q_in h
    refine ⟨hi, ?_⟩
    intro T4 q
    obtain ⟨R, q⟩ := q_wA R q rfl
    replace h := q_ltw h q
    intro T5 q
    obtain ⟨R, q⟩ := q_wI R q rfl rfl
    replace h := q_ltw h q
    rw [q_l2465 R]
    obtain ⟨hi, h⟩ := q_in h
    refine ⟨hi, ?_⟩
    refine ⟨fun c => ?_, fun c => ?_⟩
    · replace h := q_ifn h c
      exact b_X12_takes_b51 R h kk
    · replace h := q_ifp h c
      obtain ⟨v1, h1, h⟩ := q_bvi h
      refine b_X12_note R h1 (fun T6 R q => ?_)
      subst q
      exact b_X12_takes_b51 R h kk
  · replace h := q_ifp h c
    obtain ⟨v1, h1, h⟩ := q_bvi h
    refine b_X12_trouble R h1 (fun T8 R q => ?_)
    subst q
    exact q_finv h kk R
def fX12_mends (x1 : Int32) (x2 : Int32) (S : q_V) : Option q_V :=
  if x1 = 0 then
  some S
  else
  q_lt (((q_i S 2487) - 1) : Int32) (fun y1 =>
  q_lt (q_si S 2478 (((q_i S 2478) + 1))) (fun T2 =>
  if (y1) < 0 ∨ 240 ≤ (y1).toNatClampNeg then none else
  q_bv (fX12_note 8 ((q_a T2 2498 y1.toNatClampNeg)) T2) (fun T4 =>
  if (y1) < 0 ∨ 240 ≤ (y1).toNatClampNeg then none else
  if (q_i T4 2501) < 0 ∨ 13 ≤ (q_i T4 2501).toNatClampNeg then none else
  q_lt (q_sa T4 2504 ((upd (q_a T4 2504) ((q_i T4 2501).toNatClampNeg) (q_a T4 2498 y1.toNatClampNeg)))) (fun T7 =>
  if (y1) < 0 ∨ 240 ≤ (y1).toNatClampNeg then none else
  if (q_i T7 2501) < 0 ∨ 13 ≤ (q_i T7 2501).toNatClampNeg then none else
  q_lt (q_sa T7 2505 ((upd (q_a T7 2505) ((q_i T7 2501).toNatClampNeg) (q_a T7 2499 y1.toNatClampNeg)))) (fun T10 =>
  if (y1) < 0 ∨ 240 ≤ (y1).toNatClampNeg then none else
  q_lt (q_sa T10 2489 ((upd (q_a T10 2489) (y1.toNatClampNeg) 5))) (fun T12 =>
  q_bv (fX12_goes y1 x2 T12) (fun T13 =>
  some T13)))))))
theorem b_X12_mends {g : q_G} {S0 : kp_S} {x1 : Int32} {x2 : Int32} {S : kp_S} {post : kp_S → Prop} {v : q_V} (R : q_Gd 2 g S0 S)  (h : fX12_mends x1 x2 (q_w g S) = some v) (kk : ∀ S, q_Gd 2 g S0 S → v = q_w g S → post S) : wX12_mends (g 0 12 0) x1 x2 S post := by
  unfold wX12_mends; unfold fX12_mends at h
  refine ⟨fun c => ?_, fun c => ?_⟩
  · replace h := q_ifn h c
    intro y1 q
    replace h := q_ltw h q
    intro T2 q
    obtain ⟨R, q⟩ := q_wI R q rfl rfl
    replace h := q_ltw h q
    refine ⟨_, q_p2498 R, ?_⟩
    rw [q_l2498 R]
    obtain ⟨hi, h⟩ := q_in h
    refine ⟨hi, ?_⟩
    obtain ⟨v1, h1, h⟩ := q_bvi h
    refine b_X12_note R h1 (fun T4 R q => ?_)
    subst q
    refine ⟨_, q_p2504 R, ?_⟩
    refine ⟨_, q_p2498 R, ?_⟩
    rw [q_l2498 R]
    obtain ⟨hi, h⟩ := q_in h
    refine ⟨hi, ?_⟩
    rw [q_l2504 R]
    obtain ⟨hi, h⟩ := q_in h
    refine ⟨hi, ?_⟩
    intro T7 q
    obtain ⟨R, q⟩ := q_wA R q rfl
    replace h := q_ltw h q
    refine ⟨_, q_p2505 R, ?_⟩
    refine ⟨_, q_p2499 R, ?_⟩
    rw [q_l2499 R]
    obtain ⟨hi, h⟩ := q_in h
    refine ⟨hi, ?_⟩
    rw [q_l2505 R]
    obtain ⟨hi, h⟩ := q_in h
    refine ⟨hi, ?_⟩
    intro T10 q
    obtain ⟨R, q⟩ := q_wA R q rfl
    replace h := q_ltw h q
    refine ⟨_, q_p2489 R, ?_⟩
    rw [q_l2489 R]
    obtain ⟨hi, h⟩ := q_in h
    refine ⟨hi, ?_⟩
    intro T12 q
    obtain ⟨R, q⟩ := q_wA R q rfl
    replace h := q_ltw h q
    obtain ⟨v1, h1, h⟩ := q_bvi h
    refine b_X12_goes R h1 (fun T13 R q => ?_)
    subst q
    exact q_finv h kk R
  · replace h := q_ifp h c
    exact q_finv h kk R
def fX12_pledges (x1 : Int32) (x2 : Int32) (S : q_V) : Option q_V :=
  if (q_i S 2501) < 0 ∨ 13 ≤ (q_i S 2501).toNatClampNeg then none else
  if (q_a S 2506 (q_i S 2501).toNatClampNeg) = 40 then
  q_bv (fX12_trouble 2 S) (fun T9 =>
  some T9)
  else
  if (q_i S 2501) < 0 ∨ 13 ≤ (q_i S 2501).toNatClampNeg then none else
  q_lt (((40 * (q_i S 2501)) + (q_a S 2506 (q_i S 2501).toNatClampNeg)) : Int32) (fun y2 =>
  if (y2) < 0 ∨ 520 ≤ (y2).toNatClampNeg then none else
  q_lt (q_sa S 2507 ((upd (q_a S 2507) (y2.toNatClampNeg) x1))) (fun T4 =>
  if (y2) < 0 ∨ 520 ≤ (y2).toNatClampNeg then none else
  q_lt (q_sa T4 2508 ((upd (q_a T4 2508) (y2.toNatClampNeg) x2))) (fun T6 =>
  if (q_i T6 2501) < 0 ∨ 13 ≤ (q_i T6 2501).toNatClampNeg then none else
  if (q_i T6 2501) < 0 ∨ 13 ≤ (q_i T6 2501).toNatClampNeg then none else
  q_lt (q_sa T6 2506 ((upd (q_a T6 2506) ((q_i T6 2501).toNatClampNeg) ((q_a T6 2506 (q_i T6 2501).toNatClampNeg) + 1)))) (fun T7 =>
  q_lt (q_si T7 2475 (((q_i T7 2475) + 1))) (fun T8 =>
  some T8)))))
theorem b_X12_pledges {g : q_G} {S0 : kp_S} {x1 : Int32} {x2 : Int32} {S : kp_S} {post : kp_S → Prop} {v : q_V} (R : q_Gd 2 g S0 S)  (h : fX12_pledges x1 x2 (q_w g S) = some v) (kk : ∀ S, q_Gd 2 g S0 S → v = q_w g S → post S) : wX12_pledges (g 0 12 0) x1 x2 S post := by
  unfold wX12_pledges; unfold fX12_pledges at h
  refine ⟨_, q_p2506 R, ?_⟩
  rw [q_l2506 R]
  obtain ⟨hi, h⟩ := q_in h
  refine ⟨hi, ?_⟩
  refine ⟨fun c => ?_, fun c => ?_⟩
  · replace h := q_ifn h c
    obtain ⟨hi, h⟩ := q_in h
    refine ⟨hi, ?_⟩
    intro y2 q
    replace h := q_ltw h q
    refine ⟨_, q_p2507 R, ?_⟩
    rw [q_l2507 R]
    obtain ⟨hi, h⟩ := q_in h
    refine ⟨hi, ?_⟩
    intro T4 q
    obtain ⟨R, q⟩ := q_wA R q rfl
    replace h := q_ltw h q
    refine ⟨_, q_p2508 R, ?_⟩
    rw [q_l2508 R]
    obtain ⟨hi, h⟩ := q_in h
    refine ⟨hi, ?_⟩
    intro T6 q
    obtain ⟨R, q⟩ := q_wA R q rfl
    replace h := q_ltw h q
    rw [q_l2506 R]
    obtain ⟨hi, h⟩ := q_in h
    refine ⟨hi, ?_⟩
    obtain ⟨hi, h⟩ := q_in h
    refine ⟨hi, ?_⟩
    intro T7 q
    obtain ⟨R, q⟩ := q_wA R q rfl
    replace h := q_ltw h q
    intro T8 q
    obtain ⟨R, q⟩ := q_wI R q rfl rfl
    replace h := q_ltw h q
    exact q_finv h kk R
  · replace h := q_ifp h c
    obtain ⟨v1, h1, h⟩ := q_bvi h
    refine b_X12_trouble R h1 (fun T9 R q => ?_)
    subst q
    exact q_finv h kk R
def fX12_levelBeside (x1 : Int32) (x2 : Int32) (S : q_V) : Option (Int32 × q_V) :=
  if (x1 + x2) < 0 ∨ 7 ≤ (x1 + x2).toNatClampNeg then none else
  some (((q_a S 2466 (x1 + x2).toNatClampNeg) / 10), S)
theorem b_X12_levelBeside {g : q_G} {S0 : kp_S} {x1 : Int32} {x2 : Int32} {S : kp_S} {post : Int32 → kp_S → Prop} {y : Int32} {v : q_V} (R : q_Gd 2 g S0 S)  (h : fX12_levelBeside x1 x2 (q_w g S) = some (y, v)) (kk : ∀ S, q_Gd 2 g S0 S → v = q_w g S → post y S) : wX12_levelBeside (g 0 12 0) x1 x2 S post := by
  unfold wX12_levelBeside; unfold fX12_levelBeside at h
  refine ⟨_, q_p2466 R, ?_⟩
  rw [q_l2466 R]
  obtain ⟨hi, h⟩ := q_in h
  refine ⟨hi, ?_⟩
  exact q_fin h kk R
def fX12_wrongSide_b18 (x1 : Int32) (x2 : Int32) (Sn : q_V) : Option (Int32 × q_V) :=
  some (3, Sn)
theorem b_X12_wrongSide_b18 {g : q_G} {S0 : kp_S} {x1 : Int32} {x2 : Int32} {Sn : kp_S} {post : Int32 → kp_S → Prop} {y : Int32} {v : q_V} (R : q_Gd 2 g S0 Sn)  (h : fX12_wrongSide_b18 x1 x2 (q_w g Sn) = some (y, v)) (kk : ∀ S, q_Gd 2 g S0 S → v = q_w g S → post y S) : wX12_wrongSide_b18 (g 0 12 0) x1 x2 Sn post := by
  unfold wX12_wrongSide_b18; unfold fX12_wrongSide_b18 at h
  exact q_fin h kk R
def fX12_wrongSide_b34 (x1 : Int32) (x2 : Int32) (xt0 : Int32) (Sn : q_V) : Option (Int32 × q_V) :=
  some (xt0, Sn)
theorem b_X12_wrongSide_b34 {g : q_G} {S0 : kp_S} {x1 : Int32} {x2 : Int32} {xt0 : Int32} {Sn : kp_S} {post : Int32 → kp_S → Prop} {y : Int32} {v : q_V} (R : q_Gd 2 g S0 Sn)  (h : fX12_wrongSide_b34 x1 x2 xt0 (q_w g Sn) = some (y, v)) (kk : ∀ S, q_Gd 2 g S0 S → v = q_w g S → post y S) : wX12_wrongSide_b34 (g 0 12 0) x1 x2 xt0 Sn post := by
  unfold wX12_wrongSide_b34; unfold fX12_wrongSide_b34 at h
  exact q_fin h kk R
def fX12_wrongSide (x1 : Int32) (x2 : Int32) (S : q_V) : Option (Int32 × q_V) :=
  q_bd (fX12_in x1 0 5 S) (fun y2 T1 =>
  if y2 = 0 then
  fX12_wrongSide_b18 x1 x2 T1
  else
  q_bd (fX12_in x2 0 1 T1) (fun y4 T3 =>
  if y4 = 0 then
  fX12_wrongSide_b18 x1 x2 T3
  else
  if (x1) < 0 ∨ 6 ≤ (x1).toNatClampNeg then none else
  if (q_a T3 2465 x1.toNatClampNeg) = 0 then
  fX12_wrongSide_b34 x1 x2 4 T3
  else
  fX12_wrongSide_b34 x1 x2 0 T3))
theorem b_X12_wrongSide {g : q_G} {S0 : kp_S} {x1 : Int32} {x2 : Int32} {S : kp_S} {post : Int32 → kp_S → Prop} {y : Int32} {v : q_V} (R : q_Gd 2 g S0 S)  (h : fX12_wrongSide x1 x2 (q_w g S) = some (y, v)) (kk : ∀ S, q_Gd 2 g S0 S → v = q_w g S → post y S) : wX12_wrongSide (g 0 12 0) x1 x2 S post := by
  unfold wX12_wrongSide; unfold fX12_wrongSide at h
  obtain ⟨y2, v1, h1, h⟩ := q_bdi h
  refine b_X12_in R h1 (fun T1 R q => ?_)
  subst q
  refine ⟨fun c => ?_, fun c => ?_⟩
  · replace h := q_ifp h c
    exact b_X12_wrongSide_b18 R h kk
  · replace h := q_ifn h c
    obtain ⟨y4, v1, h1, h⟩ := q_bdi h
    refine b_X12_in R h1 (fun T3 R q => ?_)
    subst q
    refine ⟨fun c => ?_, fun c => ?_⟩
    · replace h := q_ifn h c
      refine ⟨_, q_p2465 R, ?_⟩
      rw [q_l2465 R]
      obtain ⟨hi, h⟩ := q_in h
      refine ⟨hi, ?_⟩
      refine ⟨fun c => ?_, fun c => ?_⟩
      · replace h := q_ifn h c
        exact b_X12_wrongSide_b34 R h kk
      · replace h := q_ifp h c
        exact b_X12_wrongSide_b34 R h kk
    · replace h := q_ifp h c
      exact b_X12_wrongSide_b18 R h kk
def fX12_moveGate_b122 (x1 : Int32) (xn2 : Int32) (xn3 : Int32) (xt0 : Int32) (Sn : q_V) : Option q_V :=
  q_bv (fX12_note xt0 (((2 * xn3) + xn2)) Sn) (fun T1001 =>
  some T1001)
theorem b_X12_moveGate_b122 {g : q_G} {S0 : kp_S} {x1 : Int32} {xn2 : Int32} {xn3 : Int32} {xt0 : Int32} {Sn : kp_S} {post : kp_S → Prop} {v : q_V} (R : q_Gd 2 g S0 Sn)  (h : fX12_moveGate_b122 x1 xn2 xn3 xt0 (q_w g Sn) = some v) (kk : ∀ S, q_Gd 2 g S0 S → v = q_w g S → post S) : wX12_moveGate_b122 (g 0 12 0) x1 xn2 xn3 xt0 (g 0 12 0) Sn post := by
  unfold wX12_moveGate_b122; unfold fX12_moveGate_b122 at h
  obtain ⟨v1, h1, h⟩ := q_bvi h
  refine b_X12_note R h1 (fun T1001 R q => ?_)
  subst q
  exact q_finv h kk R
def fX12_moveGate_b89 (x1 : Int32) (xn2 : Int32) (xn3 : Int32) (xn4 : Int32) (Sn : q_V) : Option q_V :=
  if xn4 ≤ 0 then
  if ((2 * xn3) + xn2) < 0 ∨ 12 ≤ ((2 * xn3) + xn2).toNatClampNeg then none else
  q_lt (q_sa Sn 2464 ((upd (q_a Sn 2464) (((2 * xn3) + xn2).toNatClampNeg) (vp_nar .boolean x1)))) (fun T2002 =>
  if x1 = 0 then
  fX12_moveGate_b122 x1 xn2 xn3 4 T2002
  else
  fX12_moveGate_b122 x1 xn2 xn3 3 T2002)
  else
  q_bv (fX12_trouble xn4 Sn) (fun T2004 =>
  some T2004)
theorem b_X12_moveGate_b89 {g : q_G} {S0 : kp_S} {x1 : Int32} {xn2 : Int32} {xn3 : Int32} {xn4 : Int32} {Sn : kp_S} {post : kp_S → Prop} {v : q_V} (R : q_Gd 2 g S0 Sn)  (h : fX12_moveGate_b89 x1 xn2 xn3 xn4 (q_w g Sn) = some v) (kk : ∀ S, q_Gd 2 g S0 S → v = q_w g S → post S) : wX12_moveGate_b89 (g 0 12 0) x1 xn2 xn3 xn4 Sn post := by
  unfold wX12_moveGate_b89; unfold fX12_moveGate_b89 at h
  refine ⟨fun c => ?_, fun c => ?_⟩
  · replace h := q_ifp h c
    refine ⟨_, q_p2464 R, ?_⟩
    rw [q_l2464 R]
    obtain ⟨hi, h⟩ := q_in h
    refine ⟨hi, ?_⟩
    intro T2002 q
    obtain ⟨R, q⟩ := q_wA R q rfl
    replace h := q_ltw h q
    refine ⟨fun c => ?_, fun c => ?_⟩
    · replace h := q_ifp h c
      exact b_X12_moveGate_b122 R h kk
    · replace h := q_ifn h c
      exact b_X12_moveGate_b122 R h kk
  · replace h := q_ifn h c
    obtain ⟨v1, h1, h⟩ := q_bvi h
    refine b_X12_trouble R h1 (fun T2004 R q => ?_)
    subst q
    exact q_finv h kk R
def fX12_moveGate_b87 (x1 : Int32) (xn2 : Int32) (xn3 : Int32) (xt0 : Int32) (Sn : q_V) : Option q_V :=
  fX12_moveGate_b89 x1 xn2 xn3 xt0 Sn
theorem b_X12_moveGate_b87 {g : q_G} {S0 : kp_S} {x1 : Int32} {xn2 : Int32} {xn3 : Int32} {xt0 : Int32} {Sn : kp_S} {post : kp_S → Prop} {v : q_V} (R : q_Gd 2 g S0 Sn)  (h : fX12_moveGate_b87 x1 xn2 xn3 xt0 (q_w g Sn) = some v) (kk : ∀ S, q_Gd 2 g S0 S → v = q_w g S → post S) : wX12_moveGate_b87 (g 0 12 0) x1 xn2 xn3 xt0 Sn post := by
  unfold wX12_moveGate_b87; unfold fX12_moveGate_b87 at h
  exact b_X12_moveGate_b89 R h kk
def fX12_moveGate_b82 (x1 : Int32) (xn2 : Int32) (xn3 : Int32) (Sn : q_V) : Option q_V :=
  fX12_moveGate_b87 x1 xn2 xn3 5 Sn
theorem b_X12_moveGate_b82 {g : q_G} {S0 : kp_S} {x1 : Int32} {xn2 : Int32} {xn3 : Int32} {Sn : kp_S} {post : kp_S → Prop} {v : q_V} (R : q_Gd 2 g S0 Sn)  (h : fX12_moveGate_b82 x1 xn2 xn3 (q_w g Sn) = some v) (kk : ∀ S, q_Gd 2 g S0 S → v = q_w g S → post S) : wX12_moveGate_b82 (g 0 12 0) x1 xn2 xn3 Sn post := by
  unfold wX12_moveGate_b82; unfold fX12_moveGate_b82 at h
  exact b_X12_moveGate_b87 R h kk
def fX12_moveGate_b46 (x1 : Int32) (xn2 : Int32) (xn3 : Int32) (xn4 : Int32) (Sn : q_V) : Option q_V :=
  if xn4 = 0 then
  if x1 = 0 then
  fX12_moveGate_b89 x1 xn2 xn3 xn4 Sn
  else
  if (xn3) < 0 ∨ 6 ≤ (xn3).toNatClampNeg then none else
  q_bd (fX12_levelBeside xn3 xn2 Sn) (fun y5003 T5002 =>
  q_lt (((q_a Sn 2463 xn3.toNatClampNeg) - y5003) : Int32) (fun y5004 =>
  if 1 < y5004 then
  fX12_moveGate_b82 x1 xn2 xn3 T5002
  else
  if (- 1) ≤ y5004 then
  fX12_moveGate_b87 x1 xn2 xn3 0 T5002
  else
  fX12_moveGate_b82 x1 xn2 xn3 T5002))
  else
  fX12_moveGate_b89 x1 xn2 xn3 xn4 Sn
theorem b_X12_moveGate_b46 {g : q_G} {S0 : kp_S} {x1 : Int32} {xn2 : Int32} {xn3 : Int32} {xn4 : Int32} {Sn : kp_S} {post : kp_S → Prop} {v : q_V} (R : q_Gd 2 g S0 Sn)  (h : fX12_moveGate_b46 x1 xn2 xn3 xn4 (q_w g Sn) = some v) (kk : ∀ S, q_Gd 2 g S0 S → v = q_w g S → post S) : wX12_moveGate_b46 (g 0 12 0) x1 xn2 xn3 xn4 Sn post := by
  unfold wX12_moveGate_b46; unfold fX12_moveGate_b46 at h
  refine ⟨fun c => ?_, fun c => ?_⟩
  · replace h := q_ifn h c
    exact b_X12_moveGate_b89 R h kk
  · replace h := q_ifp h c
    refine ⟨fun c => ?_, fun c => ?_⟩
    · replace h := q_ifp h c
      exact b_X12_moveGate_b89 R h kk
    · replace h := q_ifn h c
      refine ⟨_, q_p2463 R, ?_⟩
      rw [q_l2463 R]
      obtain ⟨hi, h⟩ := q_in h
      refine ⟨hi, ?_⟩
      obtain ⟨y5003, v1, h1, h⟩ := q_bdi h
      refine b_X12_levelBeside R h1 (fun T5002 R q => ?_)
      subst q
      intro y5004 q
      replace h := q_ltw h q
      refine ⟨fun c => ?_, fun c => ?_⟩
      · replace h := q_ifp h c
        exact b_X12_moveGate_b82 R h kk
      · replace h := q_ifn h c
        refine ⟨fun c => ?_, fun c => ?_⟩
        · replace h := q_ifp h c
          exact b_X12_moveGate_b87 R h kk
        · replace h := q_ifn h c
          exact b_X12_moveGate_b82 R h kk
def fX12_moveGate (x1 : Int32) (S : q_V) : Option q_V :=
  q_bd (fX12_pop S) (fun y2 T1 =>
  q_bd (fX12_pop T1) (fun y4 T3 =>
  q_bd (fX12_wrongSide y4 y2 T3) (fun y6 T5 =>
  if y6 = 0 then
  if x1 = 0 then
  fX12_moveGate_b46 x1 y2 y4 y6 T5
  else
  if (((2 * y4) + 1) - y2) < 0 ∨ 12 ≤ (((2 * y4) + 1) - y2).toNatClampNeg then none else
  if (q_a T5 2464 (((2 * y4) + 1) - y2).toNatClampNeg) = 0 then
  fX12_moveGate_b46 x1 y2 y4 y6 T5
  else
  fX12_moveGate_b46 x1 y2 y4 6 T5
  else
  fX12_moveGate_b46 x1 y2 y4 y6 T5)))
theorem b_X12_moveGate {g : q_G} {S0 : kp_S} {x1 : Int32} {S : kp_S} {post : kp_S → Prop} {v : q_V} (R : q_Gd 2 g S0 S)  (h : fX12_moveGate x1 (q_w g S) = some v) (kk : ∀ S, q_Gd 2 g S0 S → v = q_w g S → post S) : wX12_moveGate (g 0 12 0) x1 S post := by
  unfold wX12_moveGate; unfold fX12_moveGate at h
  obtain ⟨y2, v1, h1, h⟩ := q_bdi h
  refine b_X12_pop R h1 (fun T1 R q => ?_)
  subst q
  obtain ⟨y4, v1, h1, h⟩ := q_bdi h
  refine b_X12_pop R h1 (fun T3 R q => ?_)
  subst q
  obtain ⟨y6, v1, h1, h⟩ := q_bdi h
  refine b_X12_wrongSide R h1 (fun T5 R q => ?_)
  subst q
  refine ⟨fun c => ?_, fun c => ?_⟩
  · replace h := q_ifn h c
    exact b_X12_moveGate_b46 R h kk
  · replace h := q_ifp h c
    refine ⟨fun c => ?_, fun c => ?_⟩
    · replace h := q_ifp h c
      exact b_X12_moveGate_b46 R h kk
    · replace h := q_ifn h c
      refine ⟨_, q_p2464 R, ?_⟩
      rw [q_l2464 R]
      obtain ⟨hi, h⟩ := q_in h
      refine ⟨hi, ?_⟩
      refine ⟨fun c => ?_, fun c => ?_⟩
      · replace h := q_ifp h c
        exact b_X12_moveGate_b46 R h kk
      · replace h := q_ifn h c
        exact b_X12_moveGate_b46 R h kk
def fX12_sluice_b208 (xn2 : Int32) (xn3 : Int32) (xn5 : Int32) (Sn : q_V) : Option q_V :=
  q_bv (fX12_note 5 (((10000 * ((2 * xn3) + xn2)) + xn5)) Sn) (fun T1001 =>
  some T1001)
theorem b_X12_sluice_b208 {g : q_G} {S0 : kp_S} {xn2 : Int32} {xn3 : Int32} {xn5 : Int32} {Sn : kp_S} {post : kp_S → Prop} {v : q_V} (R : q_Gd 2 g S0 Sn)  (h : fX12_sluice_b208 xn2 xn3 xn5 (q_w g Sn) = some v) (kk : ∀ S, q_Gd 2 g S0 S → v = q_w g S → post S) : wX12_sluice_b208 (g 0 12 0) xn2 xn3 xn5 Sn post := by
  unfold wX12_sluice_b208; unfold fX12_sluice_b208 at h
  obtain ⟨v1, h1, h⟩ := q_bvi h
  refine b_X12_note R h1 (fun T1001 R q => ?_)
  subst q
  exact q_finv h kk R
def fX12_sluice_b200 (xn1 : Int32) (xn2 : Int32) (xn3 : Int32) (xn5 : Int32) (xn6 : Int32) (xn7 : Int32) (xt0 : Int32) (xt1 : Int32) (xt2 : Int32) (K102 : Int32 → Int32 → Int32 → Int32 → Int32 → Int32 → q_V → Option q_V) (Sn : q_V) : Option q_V :=
  if (xt2) < 0 ∨ 7 ≤ (xt2).toNatClampNeg then none else
  q_lt (q_sa Sn 2466 ((upd (q_a Sn 2466) (xt2.toNatClampNeg) (xt1 + xt0)))) (fun T2001 =>
  q_lt (xn5 + 1 : Int32) (fun y2002 =>
  K102 xn1 xn2 xn3 y2002 xn6 xn7 T2001))
theorem b_X12_sluice_b200 {g : q_G} {S0 : kp_S} {xn1 : Int32} {xn2 : Int32} {xn3 : Int32} {xn5 : Int32} {xn6 : Int32} {xn7 : Int32} {xt0 : Int32} {xt1 : Int32} {xt2 : Int32} {K102f : Int32 → Int32 → Int32 → Int32 → Int32 → Int32 → q_V → Option q_V} {K102 : Int32 → Int32 → Int32 → Int32 → Int32 → Int32 → kp_S → Prop} {Sn : kp_S} {post : kp_S → Prop} {v : q_V} (R : q_Gd 2 g S0 Sn) (hK102 : ∀ (x0 : Int32) (x1 : Int32) (x2 : Int32) (x3 : Int32) (x4 : Int32) (x5 : Int32) (S : kp_S), q_Gd 2 g S0 S → K102f x0 x1 x2 x3 x4 x5 (q_w g S) = some v → K102 x0 x1 x2 x3 x4 x5 S) (h : fX12_sluice_b200 xn1 xn2 xn3 xn5 xn6 xn7 xt0 xt1 xt2 K102f (q_w g Sn) = some v) (kk : ∀ S, q_Gd 2 g S0 S → v = q_w g S → post S) : wX12_sluice_b200 (g 0 12 0) xn1 xn2 xn3 xn5 xn6 xn7 xt0 xt1 xt2 (g 1 2466 0) K102 Sn post := by
  unfold wX12_sluice_b200; unfold fX12_sluice_b200 at h
  rw [q_l2466 R]
  obtain ⟨hi, h⟩ := q_in h
  refine ⟨hi, ?_⟩
  intro T2001 q
  obtain ⟨R, q⟩ := q_wA R q rfl
  replace h := q_ltw h q
  intro y2002 q
  replace h := q_ltw h q
  exact hK102 _ _ _ _ _ _ _ R h
def fX12_sluice_b179 (xn1 : Int32) (xn2 : Int32) (xn3 : Int32) (xn5 : Int32) (xn6 : Int32) (xn7 : Int32) (xt0 : Int32) (xt1 : Int32) (xt2 : Int32) (K102 : Int32 → Int32 → Int32 → Int32 → Int32 → Int32 → q_V → Option q_V) (Sn : q_V) : Option q_V :=
  if (xt2) < 0 ∨ 6 ≤ (xt2).toNatClampNeg then none else
  q_lt (q_sa Sn 2463 ((upd (q_a Sn 2463) (xt2.toNatClampNeg) (xt1 + xt0)))) (fun T3001 =>
  if (xn3 + xn2) < 0 ∨ 7 ≤ (xn3 + xn2).toNatClampNeg then none else
  if xn6 = 0 then
  fX12_sluice_b200 xn1 xn2 xn3 xn5 xn6 xn7 ((- 1)) ((q_a T3001 2466 (xn3 + xn2).toNatClampNeg)) ((xn3 + xn2)) K102 T3001
  else
  fX12_sluice_b200 xn1 xn2 xn3 xn5 xn6 xn7 1 ((q_a T3001 2466 (xn3 + xn2).toNatClampNeg)) ((xn3 + xn2)) K102 T3001)
theorem b_X12_sluice_b179 {g : q_G} {S0 : kp_S} {xn1 : Int32} {xn2 : Int32} {xn3 : Int32} {xn5 : Int32} {xn6 : Int32} {xn7 : Int32} {xt0 : Int32} {xt1 : Int32} {xt2 : Int32} {K102f : Int32 → Int32 → Int32 → Int32 → Int32 → Int32 → q_V → Option q_V} {K102 : Int32 → Int32 → Int32 → Int32 → Int32 → Int32 → kp_S → Prop} {Sn : kp_S} {post : kp_S → Prop} {v : q_V} (R : q_Gd 2 g S0 Sn) (hK102 : ∀ (x0 : Int32) (x1 : Int32) (x2 : Int32) (x3 : Int32) (x4 : Int32) (x5 : Int32) (S : kp_S), q_Gd 2 g S0 S → K102f x0 x1 x2 x3 x4 x5 (q_w g S) = some v → K102 x0 x1 x2 x3 x4 x5 S) (h : fX12_sluice_b179 xn1 xn2 xn3 xn5 xn6 xn7 xt0 xt1 xt2 K102f (q_w g Sn) = some v) (kk : ∀ S, q_Gd 2 g S0 S → v = q_w g S → post S) : wX12_sluice_b179 (g 0 12 0) xn1 xn2 xn3 xn5 xn6 xn7 xt0 xt1 xt2 (g 1 2463 0) K102 Sn post := by
  unfold wX12_sluice_b179; unfold fX12_sluice_b179 at h
  rw [q_l2463 R]
  obtain ⟨hi, h⟩ := q_in h
  refine ⟨hi, ?_⟩
  intro T3001 q
  obtain ⟨R, q⟩ := q_wA R q rfl
  replace h := q_ltw h q
  refine ⟨_, q_p2466 R, ?_⟩
  rw [q_l2466 R]
  obtain ⟨hi, h⟩ := q_in h
  refine ⟨hi, ?_⟩
  refine ⟨fun c => ?_, fun c => ?_⟩
  · replace h := q_ifp h c
    exact b_X12_sluice_b200 R hK102 h kk
  · replace h := q_ifn h c
    exact b_X12_sluice_b200 R hK102 h kk
def fX12_sluice_b151 (xn1 : Int32) (xn2 : Int32) (xn3 : Int32) (xn5 : Int32) (xn6 : Int32) (K102 : Int32 → Int32 → Int32 → Int32 → Int32 → Int32 → q_V → Option q_V) (Sn : q_V) : Option q_V :=
  q_bd (fX12_burns Sn) (fun y4002 T4001 =>
  if y4002 = 0 then
  K102 xn1 xn2 xn3 xn5 xn6 y4002 T4001
  else
  if (xn3) < 0 ∨ 6 ≤ (xn3).toNatClampNeg then none else
  if xn6 = 0 then
  fX12_sluice_b179 xn1 xn2 xn3 xn5 xn6 y4002 1 ((q_a T4001 2463 xn3.toNatClampNeg)) xn3 K102 T4001
  else
  fX12_sluice_b179 xn1 xn2 xn3 xn5 xn6 y4002 ((- 1)) ((q_a T4001 2463 xn3.toNatClampNeg)) xn3 K102 T4001)
theorem b_X12_sluice_b151 {g : q_G} {S0 : kp_S} {xn1 : Int32} {xn2 : Int32} {xn3 : Int32} {xn5 : Int32} {xn6 : Int32} {K102f : Int32 → Int32 → Int32 → Int32 → Int32 → Int32 → q_V → Option q_V} {K102 : Int32 → Int32 → Int32 → Int32 → Int32 → Int32 → kp_S → Prop} {Sn : kp_S} {post : kp_S → Prop} {v : q_V} (R : q_Gd 2 g S0 Sn) (hK102 : ∀ (x0 : Int32) (x1 : Int32) (x2 : Int32) (x3 : Int32) (x4 : Int32) (x5 : Int32) (S : kp_S), q_Gd 2 g S0 S → K102f x0 x1 x2 x3 x4 x5 (q_w g S) = some v → K102 x0 x1 x2 x3 x4 x5 S) (h : fX12_sluice_b151 xn1 xn2 xn3 xn5 xn6 K102f (q_w g Sn) = some v) (kk : ∀ S, q_Gd 2 g S0 S → v = q_w g S → post S) : wX12_sluice_b151 (g 0 12 0) xn1 xn2 xn3 xn5 xn6 K102 Sn post := by
  unfold wX12_sluice_b151; unfold fX12_sluice_b151 at h
  obtain ⟨y4002, v1, h1, h⟩ := q_bdi h
  refine b_X12_burns R h1 (fun T4001 R q => ?_)
  subst q
  refine ⟨fun c => ?_, fun c => ?_⟩
  · replace h := q_ifp h c
    exact hK102 _ _ _ _ _ _ _ R h
  · replace h := q_ifn h c
    refine ⟨_, q_p2463 R, ?_⟩
    rw [q_l2463 R]
    obtain ⟨hi, h⟩ := q_in h
    refine ⟨hi, ?_⟩
    refine ⟨fun c => ?_, fun c => ?_⟩
    · replace h := q_ifp h c
      exact b_X12_sluice_b179 R hK102 h kk
    · replace h := q_ifn h c
      exact b_X12_sluice_b179 R hK102 h kk
def fX12_sluice_L102  : Nat → Int32 → Int32 → Int32 → Int32 → Int32 → Int32 → q_V → Option q_V
  | 0, _, _, _, _, _, _, _ => none
  | n + 1, xn1, xn2, xn3, xn5, xn6, xn7, Sn =>
  if xn7 = 0 then
  fX12_sluice_b208 xn2 xn3 xn5 Sn
  else
  if xn1 ≤ xn5 then
  fX12_sluice_b208 xn2 xn3 xn5 Sn
  else
  if xn6 = 0 then
  if (xn3) < 0 ∨ 6 ≤ (xn3).toNatClampNeg then none else
  q_bd (fX12_levelBeside xn3 xn2 Sn) (fun y5003 T5002 =>
  if y5003 ≤ (q_a Sn 2463 xn3.toNatClampNeg) then
  fX12_sluice_b208 xn2 xn3 xn5 T5002
  else
  fX12_sluice_b151 xn1 xn2 xn3 xn5 xn6 (fun xn1_ xn2_ xn3_ xn5_ xn6_ xn7_ S_ => fX12_sluice_L102 n xn1_ xn2_ xn3_ xn5_ xn6_ xn7_ S_) T5002)
  else
  if (xn3) < 0 ∨ 6 ≤ (xn3).toNatClampNeg then none else
  q_bd (fX12_levelBeside xn3 xn2 Sn) (fun y5007 T5006 =>
  if (q_a Sn 2463 xn3.toNatClampNeg) ≤ y5007 then
  fX12_sluice_b208 xn2 xn3 xn5 T5006
  else
  fX12_sluice_b151 xn1 xn2 xn3 xn5 xn6 (fun xn1_ xn2_ xn3_ xn5_ xn6_ xn7_ S_ => fX12_sluice_L102 n xn1_ xn2_ xn3_ xn5_ xn6_ xn7_ S_) T5006)
theorem b_X12_sluice_L102 {g : q_G} {S0 : kp_S} {post : kp_S → Prop} {v : q_V}  (kk : ∀ S, q_Gd 2 g S0 S → v = q_w g S → post S) : ∀ (n : Nat) (xn1 : Int32) (xn2 : Int32) (xn3 : Int32) (xn5 : Int32) (xn6 : Int32) (xn7 : Int32) (Sn : kp_S), q_Gd 2 g S0 Sn → fX12_sluice_L102  n xn1 xn2 xn3 xn5 xn6 xn7 (q_w g Sn) = some v → wX12_sluice_L102 (g 0 12 0) post n xn1 xn2 xn3 xn5 xn6 xn7 Sn := by
  intro n
  induction n with
  | zero => intro xn1 xn2 xn3 xn5 xn6 xn7 Sn _ h; cases h
  | succ n ih =>
    intro xn1 xn2 xn3 xn5 xn6 xn7 Sn R h
    unfold wX12_sluice_L102; unfold fX12_sluice_L102 at h
    refine ⟨fun c => ?_, fun c => ?_⟩
    · replace h := q_ifp h c
      exact b_X12_sluice_b208 R h kk
    · replace h := q_ifn h c
      refine ⟨fun c => ?_, fun c => ?_⟩
      · replace h := q_ifp h c
        exact b_X12_sluice_b208 R h kk
      · replace h := q_ifn h c
        refine ⟨fun c => ?_, fun c => ?_⟩
        · replace h := q_ifp h c
          refine ⟨_, q_p2463 R, ?_⟩
          rw [q_l2463 R]
          obtain ⟨hi, h⟩ := q_in h
          refine ⟨hi, ?_⟩
          obtain ⟨y5003, v1, h1, h⟩ := q_bdi h
          refine b_X12_levelBeside R h1 (fun T5002 R q => ?_)
          subst q
          refine ⟨fun c => ?_, fun c => ?_⟩
          · replace h := q_ifp h c
            exact b_X12_sluice_b208 R h kk
          · replace h := q_ifn h c
            exact b_X12_sluice_b151 R (fun xn1_ xn2_ xn3_ xn5_ xn6_ xn7_ S_ R h => ih xn1_ xn2_ xn3_ xn5_ xn6_ xn7_ S_ R h) h kk
        · replace h := q_ifn h c
          refine ⟨_, q_p2463 R, ?_⟩
          rw [q_l2463 R]
          obtain ⟨hi, h⟩ := q_in h
          refine ⟨hi, ?_⟩
          obtain ⟨y5007, v1, h1, h⟩ := q_bdi h
          refine b_X12_levelBeside R h1 (fun T5006 R q => ?_)
          subst q
          refine ⟨fun c => ?_, fun c => ?_⟩
          · replace h := q_ifp h c
            exact b_X12_sluice_b208 R h kk
          · replace h := q_ifn h c
            exact b_X12_sluice_b151 R (fun xn1_ xn2_ xn3_ xn5_ xn6_ xn7_ S_ R h => ih xn1_ xn2_ xn3_ xn5_ xn6_ xn7_ S_ R h) h kk
def fX12_sluice_b97 (xn1 : Int32) (xn2 : Int32) (xn3 : Int32) (xn5 : Int32) (xt0 : Int32) (Sn : q_V) : Option q_V :=
  fX12_sluice_L102 q_N xn1 xn2 xn3 xn5 xt0 1 Sn
theorem b_X12_sluice_b97 {g : q_G} {S0 : kp_S} {xn1 : Int32} {xn2 : Int32} {xn3 : Int32} {xn5 : Int32} {xt0 : Int32} {Sn : kp_S} {post : kp_S → Prop} {v : q_V} (R : q_Gd 2 g S0 Sn)  (h : fX12_sluice_b97 xn1 xn2 xn3 xn5 xt0 (q_w g Sn) = some v) (kk : ∀ S, q_Gd 2 g S0 S → v = q_w g S → post S) : wX12_sluice_b97 (g 0 12 0) xn1 xn2 xn3 xn5 xt0 Sn post := by
  unfold wX12_sluice_b97; unfold fX12_sluice_b97 at h
  exact ⟨q_N, b_X12_sluice_L102 kk q_N _ _ _ _ _ _ _ R h⟩
def fX12_sluice_b62 (xn1 : Int32) (xn2 : Int32) (xn3 : Int32) (xn4 : Int32) (Sn : q_V) : Option q_V :=
  if xn4 ≤ 0 then
  if (xn3) < 0 ∨ 6 ≤ (xn3).toNatClampNeg then none else
  q_bd (fX12_levelBeside xn3 xn2 Sn) (fun y7003 T7002 =>
  if (q_a Sn 2463 xn3.toNatClampNeg) ≤ y7003 then
  fX12_sluice_b97 xn1 xn2 xn3 0 0 T7002
  else
  fX12_sluice_b97 xn1 xn2 xn3 0 1 T7002)
  else
  q_bv (fX12_trouble xn4 Sn) (fun T7005 =>
  some T7005)
theorem b_X12_sluice_b62 {g : q_G} {S0 : kp_S} {xn1 : Int32} {xn2 : Int32} {xn3 : Int32} {xn4 : Int32} {Sn : kp_S} {post : kp_S → Prop} {v : q_V} (R : q_Gd 2 g S0 Sn)  (h : fX12_sluice_b62 xn1 xn2 xn3 xn4 (q_w g Sn) = some v) (kk : ∀ S, q_Gd 2 g S0 S → v = q_w g S → post S) : wX12_sluice_b62 (g 0 12 0) xn1 xn2 xn3 xn4 Sn post := by
  unfold wX12_sluice_b62; unfold fX12_sluice_b62 at h
  refine ⟨fun c => ?_, fun c => ?_⟩
  · replace h := q_ifp h c
    refine ⟨_, q_p2463 R, ?_⟩
    rw [q_l2463 R]
    obtain ⟨hi, h⟩ := q_in h
    refine ⟨hi, ?_⟩
    obtain ⟨y7003, v1, h1, h⟩ := q_bdi h
    refine b_X12_levelBeside R h1 (fun T7002 R q => ?_)
    subst q
    refine ⟨fun c => ?_, fun c => ?_⟩
    · replace h := q_ifp h c
      exact b_X12_sluice_b97 R h kk
    · replace h := q_ifn h c
      exact b_X12_sluice_b97 R h kk
  · replace h := q_ifn h c
    obtain ⟨v1, h1, h⟩ := q_bvi h
    refine b_X12_trouble R h1 (fun T7005 R q => ?_)
    subst q
    exact q_finv h kk R
def fX12_sluice_b36 (xn1 : Int32) (xn2 : Int32) (xn3 : Int32) (xt0 : Int32) (Sn : q_V) : Option q_V :=
  if xt0 = 0 then
  if (((2 * xn3) + 1) - xn2) < 0 ∨ 12 ≤ (((2 * xn3) + 1) - xn2).toNatClampNeg then none else
  if (q_a Sn 2464 (((2 * xn3) + 1) - xn2).toNatClampNeg) = 0 then
  fX12_sluice_b62 xn1 xn2 xn3 xt0 Sn
  else
  fX12_sluice_b62 xn1 xn2 xn3 6 Sn
  else
  fX12_sluice_b62 xn1 xn2 xn3 xt0 Sn
theorem b_X12_sluice_b36 {g : q_G} {S0 : kp_S} {xn1 : Int32} {xn2 : Int32} {xn3 : Int32} {xt0 : Int32} {Sn : kp_S} {post : kp_S → Prop} {v : q_V} (R : q_Gd 2 g S0 Sn)  (h : fX12_sluice_b36 xn1 xn2 xn3 xt0 (q_w g Sn) = some v) (kk : ∀ S, q_Gd 2 g S0 S → v = q_w g S → post S) : wX12_sluice_b36 (g 0 12 0) xn1 xn2 xn3 xt0 Sn post := by
  unfold wX12_sluice_b36; unfold fX12_sluice_b36 at h
  refine ⟨fun c => ?_, fun c => ?_⟩
  · replace h := q_ifn h c
    exact b_X12_sluice_b62 R h kk
  · replace h := q_ifp h c
    refine ⟨_, q_p2464 R, ?_⟩
    rw [q_l2464 R]
    obtain ⟨hi, h⟩ := q_in h
    refine ⟨hi, ?_⟩
    refine ⟨fun c => ?_, fun c => ?_⟩
    · replace h := q_ifp h c
      exact b_X12_sluice_b62 R h kk
    · replace h := q_ifn h c
      exact b_X12_sluice_b62 R h kk
def fX12_sluice (S : q_V) : Option q_V :=
  q_bd (fX12_pop S) (fun y2 T1 =>
  q_bd (fX12_pop T1) (fun y4 T3 =>
  q_bd (fX12_pop T3) (fun y6 T5 =>
  q_bd (fX12_in y2 0 1000 T5) (fun y8 T7 =>
  if y8 = 0 then
  fX12_sluice_b36 y2 y4 y6 3 T7
  else
  q_bd (fX12_wrongSide y6 y4 T7) (fun y10 T9 =>
  fX12_sluice_b36 y2 y4 y6 y10 T9)))))
theorem b_X12_sluice {g : q_G} {S0 : kp_S} {S : kp_S} {post : kp_S → Prop} {v : q_V} (R : q_Gd 2 g S0 S)  (h : fX12_sluice (q_w g S) = some v) (kk : ∀ S, q_Gd 2 g S0 S → v = q_w g S → post S) : wX12_sluice (g 0 12 0) S post := by
  unfold wX12_sluice; unfold fX12_sluice at h
  obtain ⟨y2, v1, h1, h⟩ := q_bdi h
  refine b_X12_pop R h1 (fun T1 R q => ?_)
  subst q
  obtain ⟨y4, v1, h1, h⟩ := q_bdi h
  refine b_X12_pop R h1 (fun T3 R q => ?_)
  subst q
  obtain ⟨y6, v1, h1, h⟩ := q_bdi h
  refine b_X12_pop R h1 (fun T5 R q => ?_)
  subst q
  obtain ⟨y8, v1, h1, h⟩ := q_bdi h
  refine b_X12_in R h1 (fun T7 R q => ?_)
  subst q
  refine ⟨fun c => ?_, fun c => ?_⟩
  · replace h := q_ifp h c
    exact b_X12_sluice_b36 R h kk
  · replace h := q_ifn h c
    obtain ⟨y10, v1, h1, h⟩ := q_bdi h
    refine b_X12_wrongSide R h1 (fun T9 R q => ?_)
    subst q
    exact b_X12_sluice_b36 R h kk
def fX12_sail_b29 (Sn : q_V) : Option q_V :=
  q_bv (fX12_trouble 3 Sn) (fun T1001 =>
  some T1001)
theorem b_X12_sail_b29 {g : q_G} {S0 : kp_S} {Sn : kp_S} {post : kp_S → Prop} {v : q_V} (R : q_Gd 2 g S0 Sn)  (h : fX12_sail_b29 (q_w g Sn) = some v) (kk : ∀ S, q_Gd 2 g S0 S → v = q_w g S → post S) : wX12_sail_b29 (g 0 12 0) Sn post := by
  unfold wX12_sail_b29; unfold fX12_sail_b29 at h
  obtain ⟨v1, h1, h⟩ := q_bvi h
  refine b_X12_trouble R h1 (fun T1001 R q => ?_)
  subst q
  exact q_finv h kk R
def fX12_sail_b185 (xn2 : Int32) (xn3 : Int32) (xt0 : Int32) (Sn : q_V) : Option q_V :=
  if xt0 ≤ 0 then
  if (xn2) < 0 ∨ 8 ≤ (xn2).toNatClampNeg then none else
  q_lt (q_sa Sn 2467 ((upd (q_a Sn 2467) (xn2.toNatClampNeg) xn3))) (fun T2002 =>
  q_bv (fX12_note 6 (((16 * xn2) + xn3)) T2002) (fun T2003 =>
  some T2003))
  else
  q_bv (fX12_trouble xt0 Sn) (fun T2004 =>
  some T2004)
theorem b_X12_sail_b185 {g : q_G} {S0 : kp_S} {xn2 : Int32} {xn3 : Int32} {xt0 : Int32} {Sn : kp_S} {post : kp_S → Prop} {v : q_V} (R : q_Gd 2 g S0 Sn)  (h : fX12_sail_b185 xn2 xn3 xt0 (q_w g Sn) = some v) (kk : ∀ S, q_Gd 2 g S0 S → v = q_w g S → post S) : wX12_sail_b185 (g 0 12 0) xn2 xn3 xt0 Sn post := by
  unfold wX12_sail_b185; unfold fX12_sail_b185 at h
  refine ⟨fun c => ?_, fun c => ?_⟩
  · replace h := q_ifp h c
    refine ⟨_, q_p2467 R, ?_⟩
    rw [q_l2467 R]
    obtain ⟨hi, h⟩ := q_in h
    refine ⟨hi, ?_⟩
    intro T2002 q
    obtain ⟨R, q⟩ := q_wA R q rfl
    replace h := q_ltw h q
    obtain ⟨v1, h1, h⟩ := q_bvi h
    refine b_X12_note R h1 (fun T2003 R q => ?_)
    subst q
    exact q_finv h kk R
  · replace h := q_ifn h c
    obtain ⟨v1, h1, h⟩ := q_bvi h
    refine b_X12_trouble R h1 (fun T2004 R q => ?_)
    subst q
    exact q_finv h kk R
def fX12_sail_b184 (xn2 : Int32) (xn3 : Int32) (Sn : q_V) : Option q_V :=
  fX12_sail_b185 xn2 xn3 0 Sn
theorem b_X12_sail_b184 {g : q_G} {S0 : kp_S} {xn2 : Int32} {xn3 : Int32} {Sn : kp_S} {post : kp_S → Prop} {v : q_V} (R : q_Gd 2 g S0 Sn)  (h : fX12_sail_b184 xn2 xn3 (q_w g Sn) = some v) (kk : ∀ S, q_Gd 2 g S0 S → v = q_w g S → post S) : wX12_sail_b184 (g 0 12 0) xn2 xn3 Sn post := by
  unfold wX12_sail_b184; unfold fX12_sail_b184 at h
  exact b_X12_sail_b185 R h kk
def fX12_sail_b128 (xn2 : Int32) (xn3 : Int32) (xn4 : Int32) (xn6 : Int32) (xt0 : Int32) (Sn : q_V) : Option q_V :=
  if (xn6) < 0 ∨ 6 ≤ (xn6).toNatClampNeg then none else
  if (q_a Sn 2465 xn6.toNatClampNeg) = 0 then
  fX12_sail_b185 xn2 xn3 4 Sn
  else
  if ((2 * xn6) + xt0) < 0 ∨ 12 ≤ ((2 * xn6) + xt0).toNatClampNeg then none else
  if (q_a Sn 2464 ((2 * xn6) + xt0).toNatClampNeg) = 0 then
  fX12_sail_b185 xn2 xn3 7 Sn
  else
  if xn3 = xn4 then
  q_bd (fX12_isTaken xn3 xn2 Sn) (fun y4004 T4003 =>
  if y4004 = 0 then
  fX12_sail_b184 xn2 xn3 T4003
  else
  fX12_sail_b185 xn2 xn3 8 T4003)
  else
  fX12_sail_b184 xn2 xn3 Sn
theorem b_X12_sail_b128 {g : q_G} {S0 : kp_S} {xn2 : Int32} {xn3 : Int32} {xn4 : Int32} {xn6 : Int32} {xt0 : Int32} {Sn : kp_S} {post : kp_S → Prop} {v : q_V} (R : q_Gd 2 g S0 Sn)  (h : fX12_sail_b128 xn2 xn3 xn4 xn6 xt0 (q_w g Sn) = some v) (kk : ∀ S, q_Gd 2 g S0 S → v = q_w g S → post S) : wX12_sail_b128 (g 0 12 0) xn2 xn3 xn4 xn6 xt0 Sn post := by
  unfold wX12_sail_b128; unfold fX12_sail_b128 at h
  refine ⟨_, q_p2465 R, ?_⟩
  rw [q_l2465 R]
  obtain ⟨hi, h⟩ := q_in h
  refine ⟨hi, ?_⟩
  refine ⟨fun c => ?_, fun c => ?_⟩
  · replace h := q_ifn h c
    refine ⟨_, q_p2464 R, ?_⟩
    rw [q_l2464 R]
    obtain ⟨hi, h⟩ := q_in h
    refine ⟨hi, ?_⟩
    refine ⟨fun c => ?_, fun c => ?_⟩
    · replace h := q_ifn h c
      refine ⟨fun c => ?_, fun c => ?_⟩
      · replace h := q_ifn h c
        exact b_X12_sail_b184 R h kk
      · replace h := q_ifp h c
        obtain ⟨y4004, v1, h1, h⟩ := q_bdi h
        refine b_X12_isTaken R h1 (fun T4003 R q => ?_)
        subst q
        refine ⟨fun c => ?_, fun c => ?_⟩
        · replace h := q_ifp h c
          exact b_X12_sail_b184 R h kk
        · replace h := q_ifn h c
          exact b_X12_sail_b185 R h kk
    · replace h := q_ifp h c
      exact b_X12_sail_b185 R h kk
  · replace h := q_ifp h c
    exact b_X12_sail_b185 R h kk
def fX12_sail_b106 (xn2 : Int32) (xn3 : Int32) (xn4 : Int32) (xt0 : Int32) (Sn : q_V) : Option q_V :=
  q_lt (((xn4 - 1) / 2) : Int32) (fun y5001 =>
  if xn4 ≤ xt0 then
  fX12_sail_b128 xn2 xn3 xn4 y5001 1 Sn
  else
  fX12_sail_b128 xn2 xn3 xn4 y5001 0 Sn)
theorem b_X12_sail_b106 {g : q_G} {S0 : kp_S} {xn2 : Int32} {xn3 : Int32} {xn4 : Int32} {xt0 : Int32} {Sn : kp_S} {post : kp_S → Prop} {v : q_V} (R : q_Gd 2 g S0 Sn)  (h : fX12_sail_b106 xn2 xn3 xn4 xt0 (q_w g Sn) = some v) (kk : ∀ S, q_Gd 2 g S0 S → v = q_w g S → post S) : wX12_sail_b106 (g 0 12 0) xn2 xn3 xn4 xt0 Sn post := by
  unfold wX12_sail_b106; unfold fX12_sail_b106 at h
  intro y5001 q
  replace h := q_ltw h q
  refine ⟨fun c => ?_, fun c => ?_⟩
  · replace h := q_ifp h c
    exact b_X12_sail_b128 R h kk
  · replace h := q_ifn h c
    exact b_X12_sail_b128 R h kk
def fX12_sail_b87 (xn2 : Int32) (xn3 : Int32) (xt0 : Int32) (Sn : q_V) : Option q_V :=
  if (xn3 - xn3 / 2 * 2) = 1 then
  if (xn2) < 0 ∨ 8 ≤ (xn2).toNatClampNeg then none else
  fX12_sail_b106 xn2 xn3 xt0 ((q_a Sn 2467 xn2.toNatClampNeg)) Sn
  else
  fX12_sail_b106 xn2 xn3 xt0 xn3 Sn
theorem b_X12_sail_b87 {g : q_G} {S0 : kp_S} {xn2 : Int32} {xn3 : Int32} {xt0 : Int32} {Sn : kp_S} {post : kp_S → Prop} {v : q_V} (R : q_Gd 2 g S0 Sn)  (h : fX12_sail_b87 xn2 xn3 xt0 (q_w g Sn) = some v) (kk : ∀ S, q_Gd 2 g S0 S → v = q_w g S → post S) : wX12_sail_b87 (g 0 12 0) xn2 xn3 xt0 Sn post := by
  unfold wX12_sail_b87; unfold fX12_sail_b87 at h
  refine ⟨fun c => ?_, fun c => ?_⟩
  · replace h := q_ifn h c
    exact b_X12_sail_b106 R h kk
  · replace h := q_ifp h c
    refine ⟨_, q_p2467 R, ?_⟩
    rw [q_l2467 R]
    obtain ⟨hi, h⟩ := q_in h
    refine ⟨hi, ?_⟩
    exact b_X12_sail_b106 R h kk
def fX12_sail_b51 (xn2 : Int32) (xt0 : Int32) (xt1 : Int32) (Sn : q_V) : Option q_V :=
  q_lt ((xt1 + xt0) : Int32) (fun y7001 =>
  q_bd (fX12_in y7001 0 12 Sn) (fun y7003 T7002 =>
  if y7003 = 0 then
  q_bv (fX12_trouble 9 T7002) (fun T7006 =>
  some T7006)
  else
  if (y7001 - y7001 / 2 * 2) = 1 then
  fX12_sail_b87 xn2 y7001 y7001 T7002
  else
  if (xn2) < 0 ∨ 8 ≤ (xn2).toNatClampNeg then none else
  fX12_sail_b87 xn2 y7001 ((q_a T7002 2467 xn2.toNatClampNeg)) T7002))
theorem b_X12_sail_b51 {g : q_G} {S0 : kp_S} {xn2 : Int32} {xt0 : Int32} {xt1 : Int32} {Sn : kp_S} {post : kp_S → Prop} {v : q_V} (R : q_Gd 2 g S0 Sn)  (h : fX12_sail_b51 xn2 xt0 xt1 (q_w g Sn) = some v) (kk : ∀ S, q_Gd 2 g S0 S → v = q_w g S → post S) : wX12_sail_b51 (g 0 12 0) xn2 xt0 xt1 Sn post := by
  unfold wX12_sail_b51; unfold fX12_sail_b51 at h
  intro y7001 q
  replace h := q_ltw h q
  obtain ⟨y7003, v1, h1, h⟩ := q_bdi h
  refine b_X12_in R h1 (fun T7002 R q => ?_)
  subst q
  refine ⟨fun c => ?_, fun c => ?_⟩
  · replace h := q_ifn h c
    refine ⟨fun c => ?_, fun c => ?_⟩
    · replace h := q_ifn h c
      refine ⟨_, q_p2467 R, ?_⟩
      rw [q_l2467 R]
      obtain ⟨hi, h⟩ := q_in h
      refine ⟨hi, ?_⟩
      exact b_X12_sail_b87 R h kk
    · replace h := q_ifp h c
      exact b_X12_sail_b87 R h kk
  · replace h := q_ifp h c
    obtain ⟨v1, h1, h⟩ := q_bvi h
    refine b_X12_trouble R h1 (fun T7006 R q => ?_)
    subst q
    exact q_finv h kk R
def fX12_sail (S : q_V) : Option q_V :=
  q_bd (fX12_pop S) (fun y2 T1 =>
  q_bd (fX12_pop T1) (fun y4 T3 =>
  q_bd (fX12_in y4 0 7 T3) (fun y6 T5 =>
  if y6 = 0 then
  fX12_sail_b29 T5
  else
  q_bd (fX12_in y2 0 1 T5) (fun y8 T7 =>
  if y8 = 0 then
  fX12_sail_b29 T7
  else
  if (y4) < 0 ∨ 8 ≤ (y4).toNatClampNeg then none else
  if y2 = 1 then
  fX12_sail_b51 y4 1 ((q_a T7 2467 y4.toNatClampNeg)) T7
  else
  fX12_sail_b51 y4 ((- 1)) ((q_a T7 2467 y4.toNatClampNeg)) T7))))
theorem b_X12_sail {g : q_G} {S0 : kp_S} {S : kp_S} {post : kp_S → Prop} {v : q_V} (R : q_Gd 2 g S0 S)  (h : fX12_sail (q_w g S) = some v) (kk : ∀ S, q_Gd 2 g S0 S → v = q_w g S → post S) : wX12_sail (g 0 12 0) S post := by
  unfold wX12_sail; unfold fX12_sail at h
  obtain ⟨y2, v1, h1, h⟩ := q_bdi h
  refine b_X12_pop R h1 (fun T1 R q => ?_)
  subst q
  obtain ⟨y4, v1, h1, h⟩ := q_bdi h
  refine b_X12_pop R h1 (fun T3 R q => ?_)
  subst q
  obtain ⟨y6, v1, h1, h⟩ := q_bdi h
  refine b_X12_in R h1 (fun T5 R q => ?_)
  subst q
  refine ⟨fun c => ?_, fun c => ?_⟩
  · replace h := q_ifp h c
    exact b_X12_sail_b29 R h kk
  · replace h := q_ifn h c
    obtain ⟨y8, v1, h1, h⟩ := q_bdi h
    refine b_X12_in R h1 (fun T7 R q => ?_)
    subst q
    refine ⟨fun c => ?_, fun c => ?_⟩
    · replace h := q_ifn h c
      refine ⟨_, q_p2467 R, ?_⟩
      rw [q_l2467 R]
      obtain ⟨hi, h⟩ := q_in h
      refine ⟨hi, ?_⟩
      refine ⟨fun c => ?_, fun c => ?_⟩
      · replace h := q_ifn h c
        exact b_X12_sail_b51 R h kk
      · replace h := q_ifp h c
        exact b_X12_sail_b51 R h kk
    · replace h := q_ifp h c
      exact b_X12_sail_b29 R h kk
def fX12_stepOfStatement_b600 (x1 : Int32) (x2 : Int32) (x3 : Int32) (Sn : q_V) : Option q_V :=
  some Sn
theorem b_X12_stepOfStatement_b600 {g : q_G} {S0 : kp_S} {x1 : Int32} {x2 : Int32} {x3 : Int32} {Sn : kp_S} {post : kp_S → Prop} {v : q_V} (R : q_Gd 2 g S0 Sn)  (h : fX12_stepOfStatement_b600 x1 x2 x3 (q_w g Sn) = some v) (kk : ∀ S, q_Gd 2 g S0 S → v = q_w g S → post S) : wX12_stepOfStatement_b600 (g 0 12 0) x1 x2 x3 Sn post := by
  unfold wX12_stepOfStatement_b600; unfold fX12_stepOfStatement_b600 at h
  exact q_finv h kk R
def fX12_stepOfStatement_b250 (x1 : Int32) (x2 : Int32) (x3 : Int32) (xt0 : Int32) (Sn : q_V) : Option q_V :=
  q_lt (q_si Sn 2481 xt0) (fun T2001 =>
  q_lt (q_si T2001 2482 x2) (fun T2002 =>
  q_bv (fX12_leaves T2002) (fun T2003 =>
  fX12_stepOfStatement_b600 x1 x2 x3 T2003)))
theorem b_X12_stepOfStatement_b250 {g : q_G} {S0 : kp_S} {x1 : Int32} {x2 : Int32} {x3 : Int32} {xt0 : Int32} {Sn : kp_S} {post : kp_S → Prop} {v : q_V} (R : q_Gd 2 g S0 Sn)  (h : fX12_stepOfStatement_b250 x1 x2 x3 xt0 (q_w g Sn) = some v) (kk : ∀ S, q_Gd 2 g S0 S → v = q_w g S → post S) : wX12_stepOfStatement_b250 (g 0 12 0) x1 x2 x3 xt0 (g 0 12 0) Sn post := by
  unfold wX12_stepOfStatement_b250; unfold fX12_stepOfStatement_b250 at h
  intro T2001 q
  obtain ⟨R, q⟩ := q_wI R q rfl rfl
  replace h := q_ltw h q
  intro T2002 q
  obtain ⟨R, q⟩ := q_wI R q rfl rfl
  replace h := q_ltw h q
  obtain ⟨v1, h1, h⟩ := q_bvi h
  refine b_X12_leaves R h1 (fun T2003 R q => ?_)
  subst q
  exact b_X12_stepOfStatement_b600 R h kk
def fX12_stepOfStatement_b238 (x1 : Int32) (x2 : Int32) (x3 : Int32) (Sn : q_V) : Option q_V :=
  if x1 = 39 then
  fX12_stepOfStatement_b250 x1 x2 x3 1 Sn
  else
  fX12_stepOfStatement_b250 x1 x2 x3 2 Sn
theorem b_X12_stepOfStatement_b238 {g : q_G} {S0 : kp_S} {x1 : Int32} {x2 : Int32} {x3 : Int32} {Sn : kp_S} {post : kp_S → Prop} {v : q_V} (R : q_Gd 2 g S0 Sn)  (h : fX12_stepOfStatement_b238 x1 x2 x3 (q_w g Sn) = some v) (kk : ∀ S, q_Gd 2 g S0 S → v = q_w g S → post S) : wX12_stepOfStatement_b238 (g 0 12 0) x1 x2 x3 Sn post := by
  unfold wX12_stepOfStatement_b238; unfold fX12_stepOfStatement_b238 at h
  refine ⟨fun c => ?_, fun c => ?_⟩
  · replace h := q_ifn h c
    exact b_X12_stepOfStatement_b250 R h kk
  · replace h := q_ifp h c
    exact b_X12_stepOfStatement_b250 R h kk
def fX12_stepOfStatement_b289 (x1 : Int32) (x2 : Int32) (x3 : Int32) (xt0 : Int32) (Sn : q_V) : Option q_V :=
  q_lt (q_si Sn 2510 xt0) (fun T4001 =>
  fX12_stepOfStatement_b600 x1 x2 x3 T4001)
theorem b_X12_stepOfStatement_b289 {g : q_G} {S0 : kp_S} {x1 : Int32} {x2 : Int32} {x3 : Int32} {xt0 : Int32} {Sn : kp_S} {post : kp_S → Prop} {v : q_V} (R : q_Gd 2 g S0 Sn)  (h : fX12_stepOfStatement_b289 x1 x2 x3 xt0 (q_w g Sn) = some v) (kk : ∀ S, q_Gd 2 g S0 S → v = q_w g S → post S) : wX12_stepOfStatement_b289 (g 0 12 0) x1 x2 x3 xt0 (g 0 12 0) Sn post := by
  unfold wX12_stepOfStatement_b289; unfold fX12_stepOfStatement_b289 at h
  intro T4001 q
  obtain ⟨R, q⟩ := q_wI R q rfl rfl
  replace h := q_ltw h q
  exact b_X12_stepOfStatement_b600 R h kk
def fX12_stepOfStatement_b450 (x1 : Int32) (x2 : Int32) (x3 : Int32) (xt0 : Int32) (xt1 : Int32) (Sn : q_V) : Option q_V :=
  q_bv (fX12_rounds xt1 xt0 Sn) (fun T5001 =>
  fX12_stepOfStatement_b600 x1 x2 x3 T5001)
theorem b_X12_stepOfStatement_b450 {g : q_G} {S0 : kp_S} {x1 : Int32} {x2 : Int32} {x3 : Int32} {xt0 : Int32} {xt1 : Int32} {Sn : kp_S} {post : kp_S → Prop} {v : q_V} (R : q_Gd 2 g S0 Sn)  (h : fX12_stepOfStatement_b450 x1 x2 x3 xt0 xt1 (q_w g Sn) = some v) (kk : ∀ S, q_Gd 2 g S0 S → v = q_w g S → post S) : wX12_stepOfStatement_b450 (g 0 12 0) x1 x2 x3 xt0 xt1 (g 0 12 0) Sn post := by
  unfold wX12_stepOfStatement_b450; unfold fX12_stepOfStatement_b450 at h
  obtain ⟨v1, h1, h⟩ := q_bvi h
  refine b_X12_rounds R h1 (fun T5001 R q => ?_)
  subst q
  exact b_X12_stepOfStatement_b600 R h kk
def fX12_stepOfStatement_b518 (x1 : Int32) (x2 : Int32) (x3 : Int32) (xt0 : Int32) (xt1 : Int32) (Sn : q_V) : Option q_V :=
  q_lt (q_si Sn 2473 ((xt1 + xt0))) (fun T6001 =>
  fX12_stepOfStatement_b600 x1 x2 x3 T6001)
theorem b_X12_stepOfStatement_b518 {g : q_G} {S0 : kp_S} {x1 : Int32} {x2 : Int32} {x3 : Int32} {xt0 : Int32} {xt1 : Int32} {Sn : kp_S} {post : kp_S → Prop} {v : q_V} (R : q_Gd 2 g S0 Sn)  (h : fX12_stepOfStatement_b518 x1 x2 x3 xt0 xt1 (q_w g Sn) = some v) (kk : ∀ S, q_Gd 2 g S0 S → v = q_w g S → post S) : wX12_stepOfStatement_b518 (g 0 12 0) x1 x2 x3 xt0 xt1 (g 0 12 0) Sn post := by
  unfold wX12_stepOfStatement_b518; unfold fX12_stepOfStatement_b518 at h
  intro T6001 q
  obtain ⟨R, q⟩ := q_wI R q rfl rfl
  replace h := q_ltw h q
  exact b_X12_stepOfStatement_b600 R h kk
def fX12_stepOfStatement_b549 (x1 : Int32) (x2 : Int32) (x3 : Int32) (xt0 : Int32) (Sn : q_V) : Option q_V :=
  q_bv (fX12_mends xt0 x2 Sn) (fun T7001 =>
  fX12_stepOfStatement_b600 x1 x2 x3 T7001)
theorem b_X12_stepOfStatement_b549 {g : q_G} {S0 : kp_S} {x1 : Int32} {x2 : Int32} {x3 : Int32} {xt0 : Int32} {Sn : kp_S} {post : kp_S → Prop} {v : q_V} (R : q_Gd 2 g S0 Sn)  (h : fX12_stepOfStatement_b549 x1 x2 x3 xt0 (q_w g Sn) = some v) (kk : ∀ S, q_Gd 2 g S0 S → v = q_w g S → post S) : wX12_stepOfStatement_b549 (g 0 12 0) x1 x2 x3 xt0 (g 0 12 0) Sn post := by
  unfold wX12_stepOfStatement_b549; unfold fX12_stepOfStatement_b549 at h
  obtain ⟨v1, h1, h⟩ := q_bvi h
  refine b_X12_mends R h1 (fun T7001 R q => ?_)
  subst q
  exact b_X12_stepOfStatement_b600 R h kk
def fX12_stepOfStatement_b594 (x1 : Int32) (x2 : Int32) (x3 : Int32) (Sn : q_V) : Option q_V :=
  q_bv (fX12_pledges x2 x3 Sn) (fun T8001 =>
  fX12_stepOfStatement_b600 x1 x2 x3 T8001)
theorem b_X12_stepOfStatement_b594 {g : q_G} {S0 : kp_S} {x1 : Int32} {x2 : Int32} {x3 : Int32} {Sn : kp_S} {post : kp_S → Prop} {v : q_V} (R : q_Gd 2 g S0 Sn)  (h : fX12_stepOfStatement_b594 x1 x2 x3 (q_w g Sn) = some v) (kk : ∀ S, q_Gd 2 g S0 S → v = q_w g S → post S) : wX12_stepOfStatement_b594 (g 0 12 0) x1 x2 x3 Sn post := by
  unfold wX12_stepOfStatement_b594; unfold fX12_stepOfStatement_b594 at h
  obtain ⟨v1, h1, h⟩ := q_bvi h
  refine b_X12_pledges R h1 (fun T8001 R q => ?_)
  subst q
  exact b_X12_stepOfStatement_b600 R h kk
def fX12_stepOfStatement_b390 (x1 : Int32) (x2 : Int32) (x3 : Int32) (xt0 : Int32) (Sn : q_V) : Option q_V :=
  q_bv (fX12_chooses xt0 x2 Sn) (fun T9001 =>
  fX12_stepOfStatement_b600 x1 x2 x3 T9001)
theorem b_X12_stepOfStatement_b390 {g : q_G} {S0 : kp_S} {x1 : Int32} {x2 : Int32} {x3 : Int32} {xt0 : Int32} {Sn : kp_S} {post : kp_S → Prop} {v : q_V} (R : q_Gd 2 g S0 Sn)  (h : fX12_stepOfStatement_b390 x1 x2 x3 xt0 (q_w g Sn) = some v) (kk : ∀ S, q_Gd 2 g S0 S → v = q_w g S → post S) : wX12_stepOfStatement_b390 (g 0 12 0) x1 x2 x3 xt0 (g 0 12 0) Sn post := by
  unfold wX12_stepOfStatement_b390; unfold fX12_stepOfStatement_b390 at h
  obtain ⟨v1, h1, h⟩ := q_bvi h
  refine b_X12_chooses R h1 (fun T9001 R q => ?_)
  subst q
  exact b_X12_stepOfStatement_b600 R h kk
def fX12_stepOfStatement_b430 (x1 : Int32) (x2 : Int32) (x3 : Int32) (xt0 : Int32) (Sn : q_V) : Option q_V :=
  q_bv (fX12_ensures xt0 Sn) (fun T10001 =>
  fX12_stepOfStatement_b600 x1 x2 x3 T10001)
theorem b_X12_stepOfStatement_b430 {g : q_G} {S0 : kp_S} {x1 : Int32} {x2 : Int32} {x3 : Int32} {xt0 : Int32} {Sn : kp_S} {post : kp_S → Prop} {v : q_V} (R : q_Gd 2 g S0 Sn)  (h : fX12_stepOfStatement_b430 x1 x2 x3 xt0 (q_w g Sn) = some v) (kk : ∀ S, q_Gd 2 g S0 S → v = q_w g S → post S) : wX12_stepOfStatement_b430 (g 0 12 0) x1 x2 x3 xt0 (g 0 12 0) Sn post := by
  unfold wX12_stepOfStatement_b430; unfold fX12_stepOfStatement_b430 at h
  obtain ⟨v1, h1, h⟩ := q_bvi h
  refine b_X12_ensures R h1 (fun T10001 R q => ?_)
  subst q
  exact b_X12_stepOfStatement_b600 R h kk
def fX12_stepOfStatement (x1 : Int32) (x2 : Int32) (x3 : Int32) (S : q_V) : Option q_V :=
  if x1 = 30 then
  q_lt (q_si S 2511 x2) (fun T2 =>
  q_bd (fX12_burns T2) (fun y4 T3 =>
  fX12_stepOfStatement_b600 x1 x2 x3 T3))
  else
  if x1 = 31 then
  q_bd (fX12_pop S) (fun y7 T6 =>
  q_bv (fX12_note 0 y7 T6) (fun T8 =>
  fX12_stepOfStatement_b600 x1 x2 x3 T8))
  else
  if x1 = 32 then
  q_bv (fX12_moveGate 1 S) (fun T10 =>
  fX12_stepOfStatement_b600 x1 x2 x3 T10)
  else
  if x1 = 33 then
  q_bv (fX12_moveGate 0 S) (fun T12 =>
  fX12_stepOfStatement_b600 x1 x2 x3 T12)
  else
  if x1 = 34 then
  q_bv (fX12_sluice S) (fun T14 =>
  fX12_stepOfStatement_b600 x1 x2 x3 T14)
  else
  if x1 = 35 then
  q_bv (fX12_sail S) (fun T16 =>
  fX12_stepOfStatement_b600 x1 x2 x3 T16)
  else
  if x1 = 36 then
  q_bd (fX12_pop S) (fun y19 T18 =>
  q_bv (fX12_fails y19 T18) (fun T20 =>
  fX12_stepOfStatement_b600 x1 x2 x3 T20))
  else
  if x1 = 37 then
  q_lt (q_si S 2513 1) (fun T22 =>
  fX12_stepOfStatement_b600 x1 x2 x3 T22)
  else
  if x1 = 38 then
  q_bd (fX12_pop S) (fun y25 T24 =>
  q_lt (q_si T24 2483 y25) (fun T26 =>
  q_lt (q_si T26 2481 3) (fun T27 =>
  q_bv (fX12_leaves T27) (fun T28 =>
  fX12_stepOfStatement_b600 x1 x2 x3 T28))))
  else
  if x1 = 39 then
  fX12_stepOfStatement_b238 x1 x2 x3 S
  else
  if x1 = 40 then
  fX12_stepOfStatement_b238 x1 x2 x3 S
  else
  if x1 = 41 then
  q_lt (q_si S 2510 x2) (fun T32 =>
  fX12_stepOfStatement_b600 x1 x2 x3 T32)
  else
  if x1 = 42 then
  q_bd (fX12_pop S) (fun y35 T34 =>
  if y35 = 0 then
  fX12_stepOfStatement_b289 x1 x2 x3 x2 T34
  else
  fX12_stepOfStatement_b289 x1 x2 x3 ((q_i T34 2510)) T34)
  else
  if x1 = 43 then
  q_bv (fX12_opens 3 0 x2 S) (fun T38 =>
  fX12_stepOfStatement_b600 x1 x2 x3 T38)
  else
  if x1 = 44 then
  q_lt (q_si S 2511 x2) (fun T40 =>
  q_bd (fX12_burns T40) (fun y42 T41 =>
  fX12_stepOfStatement_b600 x1 x2 x3 T41))
  else
  if x1 = 45 then
  q_bd (fX12_pop S) (fun y45 T44 =>
  if y45 = 0 then
  fX12_stepOfStatement_b450 x1 x2 x3 0 x2 T44
  else
  fX12_stepOfStatement_b450 x1 x2 x3 1 x2 T44)
  else
  if x1 = 46 then
  q_bv (fX12_beginsEach x2 S) (fun T48 =>
  fX12_stepOfStatement_b600 x1 x2 x3 T48)
  else
  if x1 = 47 then
  q_bv (fX12_testsEach x2 S) (fun T50 =>
  fX12_stepOfStatement_b600 x1 x2 x3 T50)
  else
  if x1 = 48 then
  q_bv (fX12_leaves S) (fun T52 =>
  fX12_stepOfStatement_b600 x1 x2 x3 T52)
  else
  if x1 = 49 then
  q_bd (fX12_pop S) (fun y55 T54 =>
  q_bv (fX12_takes y55 x2 T54) (fun T56 =>
  fX12_stepOfStatement_b600 x1 x2 x3 T56))
  else
  if x1 = 50 then
  q_bv (fX12_opens 4 3 x2 S) (fun T58 =>
  if (x2) < 0 ∨ 640 ≤ (x2).toNatClampNeg then none else
  if (q_a T58 2452 x2.toNatClampNeg) = (- 1) then
  fX12_stepOfStatement_b518 x1 x2 x3 0 ((q_i T58 2473)) T58
  else
  fX12_stepOfStatement_b518 x1 x2 x3 1 ((q_i T58 2473)) T58)
  else
  if x1 = 51 then
  q_bd (fX12_pop S) (fun y63 T62 =>
  if ((q_i T62 2487) - 1) < 0 ∨ 240 ≤ ((q_i T62 2487) - 1).toNatClampNeg then none else
  if y63 = (q_a T62 2498 ((q_i T62 2487) - 1).toNatClampNeg) then
  fX12_stepOfStatement_b549 x1 x2 x3 1 T62
  else
  fX12_stepOfStatement_b549 x1 x2 x3 0 T62)
  else
  if x1 = 52 then
  q_bv (fX12_mends 1 x2 S) (fun T67 =>
  fX12_stepOfStatement_b600 x1 x2 x3 T67)
  else
  if x1 = 53 then
  q_bv (fX12_takeWay (((q_i S 2487) - 1)) S) (fun T69 =>
  if ((q_i T69 2487) - 1) < 0 ∨ 240 ≤ ((q_i T69 2487) - 1).toNatClampNeg then none else
  q_lt (q_sa T69 2489 ((upd (q_a T69 2489) (((q_i T69 2487) - 1).toNatClampNeg) 5))) (fun T71 =>
  q_bv (fX12_leaves T71) (fun T72 =>
  fX12_stepOfStatement_b600 x1 x2 x3 T72)))
  else
  if x1 = 54 then
  fX12_stepOfStatement_b594 x1 x2 x3 S
  else
  if x1 = 55 then
  q_lt (q_si S 2511 x2) (fun T75 =>
  fX12_stepOfStatement_b600 x1 x2 x3 T75)
  else
  if x1 = 56 then
  q_bd (fX12_burns S) (fun y78 T77 =>
  if y78 = 0 then
  fX12_stepOfStatement_b600 x1 x2 x3 T77
  else
  q_bv (fX12_rounds x2 1 T77) (fun T79 =>
  fX12_stepOfStatement_b600 x1 x2 x3 T79))
  else
  if x1 = 57 then
  q_bd (fX12_pop S) (fun y83 T82 =>
  if y83 = 0 then
  q_lt (q_si T82 2510 x3) (fun T85 =>
  fX12_stepOfStatement_b600 x1 x2 x3 T85)
  else
  q_bv (fX12_rounds x2 0 T82) (fun T84 =>
  fX12_stepOfStatement_b600 x1 x2 x3 T84))
  else
  if x1 = 58 then
  q_bd (fX12_pop S) (fun y89 T88 =>
  if ((q_i T88 2516) - 1) < 0 ∨ 4000 ≤ ((q_i T88 2516) - 1).toNatClampNeg then none else
  if y89 = (q_a T88 2515 ((q_i T88 2516) - 1).toNatClampNeg) then
  fX12_stepOfStatement_b390 x1 x2 x3 1 T88
  else
  fX12_stepOfStatement_b390 x1 x2 x3 0 T88)
  else
  if x1 = 59 then
  q_bv (fX12_chooses 1 x2 S) (fun T93 =>
  fX12_stepOfStatement_b600 x1 x2 x3 T93)
  else
  if x1 = 60 then
  q_bv (fX12_opens 5 8 x2 S) (fun T95 =>
  fX12_stepOfStatement_b600 x1 x2 x3 T95)
  else
  if x1 = 61 then
  q_bd (fX12_pop S) (fun y98 T97 =>
  if y98 = 0 then
  fX12_stepOfStatement_b430 x1 x2 x3 0 T97
  else
  fX12_stepOfStatement_b430 x1 x2 x3 1 T97)
  else
  fX12_stepOfStatement_b594 x1 x2 x3 S
theorem b_X12_stepOfStatement {g : q_G} {S0 : kp_S} {x1 : Int32} {x2 : Int32} {x3 : Int32} {S : kp_S} {post : kp_S → Prop} {v : q_V} (R : q_Gd 2 g S0 S)  (h : fX12_stepOfStatement x1 x2 x3 (q_w g S) = some v) (kk : ∀ S, q_Gd 2 g S0 S → v = q_w g S → post S) : wX12_stepOfStatement (g 0 12 0) x1 x2 x3 S post := by
  unfold wX12_stepOfStatement; unfold fX12_stepOfStatement at h
  refine ⟨fun c => ?_, fun c => ?_⟩
  · replace h := q_ifp h c
    intro T2 q
    obtain ⟨R, q⟩ := q_wI R q rfl rfl
    replace h := q_ltw h q
    obtain ⟨y4, v1, h1, h⟩ := q_bdi h
    refine b_X12_burns R h1 (fun T3 R q => ?_)
    subst q
    exact b_X12_stepOfStatement_b600 R h kk
  · replace h := q_ifn h c
    refine ⟨fun c => ?_, fun c => ?_⟩
    · replace h := q_ifp h c
      obtain ⟨y7, v1, h1, h⟩ := q_bdi h
      refine b_X12_pop R h1 (fun T6 R q => ?_)
      subst q
      obtain ⟨v1, h1, h⟩ := q_bvi h
      refine b_X12_note R h1 (fun T8 R q => ?_)
      subst q
      exact b_X12_stepOfStatement_b600 R h kk
    · replace h := q_ifn h c
      refine ⟨fun c => ?_, fun c => ?_⟩
      · replace h := q_ifp h c
        obtain ⟨v1, h1, h⟩ := q_bvi h
        refine b_X12_moveGate R h1 (fun T10 R q => ?_)
        subst q
        exact b_X12_stepOfStatement_b600 R h kk
      · replace h := q_ifn h c
        refine ⟨fun c => ?_, fun c => ?_⟩
        · replace h := q_ifp h c
          obtain ⟨v1, h1, h⟩ := q_bvi h
          refine b_X12_moveGate R h1 (fun T12 R q => ?_)
          subst q
          exact b_X12_stepOfStatement_b600 R h kk
        · replace h := q_ifn h c
          refine ⟨fun c => ?_, fun c => ?_⟩
          · replace h := q_ifp h c
            obtain ⟨v1, h1, h⟩ := q_bvi h
            refine b_X12_sluice R h1 (fun T14 R q => ?_)
            subst q
            exact b_X12_stepOfStatement_b600 R h kk
          · replace h := q_ifn h c
            refine ⟨fun c => ?_, fun c => ?_⟩
            · replace h := q_ifp h c
              obtain ⟨v1, h1, h⟩ := q_bvi h
              refine b_X12_sail R h1 (fun T16 R q => ?_)
              subst q
              exact b_X12_stepOfStatement_b600 R h kk
            · replace h := q_ifn h c
              refine ⟨fun c => ?_, fun c => ?_⟩
              · replace h := q_ifp h c
                obtain ⟨y19, v1, h1, h⟩ := q_bdi h
                refine b_X12_pop R h1 (fun T18 R q => ?_)
                subst q
                obtain ⟨v1, h1, h⟩ := q_bvi h
                refine b_X12_fails R h1 (fun T20 R q => ?_)
                subst q
                exact b_X12_stepOfStatement_b600 R h kk
              · replace h := q_ifn h c
                refine ⟨fun c => ?_, fun c => ?_⟩
                · replace h := q_ifp h c
                  intro T22 q
                  obtain ⟨R, q⟩ := q_wI R q rfl rfl
                  replace h := q_ltw h q
                  exact b_X12_stepOfStatement_b600 R h kk
                · replace h := q_ifn h c
                  refine ⟨fun c => ?_, fun c => ?_⟩
                  · replace h := q_ifp h c
                    obtain ⟨y25, v1, h1, h⟩ := q_bdi h
                    refine b_X12_pop R h1 (fun T24 R q => ?_)
                    subst q
                    intro T26 q
                    obtain ⟨R, q⟩ := q_wI R q rfl rfl
                    replace h := q_ltw h q
                    intro T27 q
                    obtain ⟨R, q⟩ := q_wI R q rfl rfl
                    replace h := q_ltw h q
                    obtain ⟨v1, h1, h⟩ := q_bvi h
                    refine b_X12_leaves R h1 (fun T28 R q => ?_)
                    subst q
                    exact b_X12_stepOfStatement_b600 R h kk
                  · replace h := q_ifn h c
                    refine ⟨fun c => ?_, fun c => ?_⟩
                    · replace h := q_ifp h c
                      exact b_X12_stepOfStatement_b238 R h kk
                    · replace h := q_ifn h c
                      refine ⟨fun c => ?_, fun c => ?_⟩
                      · replace h := q_ifp h c
                        exact b_X12_stepOfStatement_b238 R h kk
                      · replace h := q_ifn h c
                        refine ⟨fun c => ?_, fun c => ?_⟩
                        · replace h := q_ifp h c
                          intro T32 q
                          obtain ⟨R, q⟩ := q_wI R q rfl rfl
                          replace h := q_ltw h q
                          exact b_X12_stepOfStatement_b600 R h kk
                        · replace h := q_ifn h c
                          refine ⟨fun c => ?_, fun c => ?_⟩
                          · replace h := q_ifp h c
                            obtain ⟨y35, v1, h1, h⟩ := q_bdi h
                            refine b_X12_pop R h1 (fun T34 R q => ?_)
                            subst q
                            refine ⟨fun c => ?_, fun c => ?_⟩
                            · replace h := q_ifn h c
                              exact b_X12_stepOfStatement_b289 R h kk
                            · replace h := q_ifp h c
                              exact b_X12_stepOfStatement_b289 R h kk
                          · replace h := q_ifn h c
                            refine ⟨fun c => ?_, fun c => ?_⟩
                            · replace h := q_ifp h c
                              obtain ⟨v1, h1, h⟩ := q_bvi h
                              refine b_X12_opens R h1 (fun T38 R q => ?_)
                              subst q
                              exact b_X12_stepOfStatement_b600 R h kk
                            · replace h := q_ifn h c
                              refine ⟨fun c => ?_, fun c => ?_⟩
                              · replace h := q_ifp h c
                                intro T40 q
                                obtain ⟨R, q⟩ := q_wI R q rfl rfl
                                replace h := q_ltw h q
                                obtain ⟨y42, v1, h1, h⟩ := q_bdi h
                                refine b_X12_burns R h1 (fun T41 R q => ?_)
                                subst q
                                exact b_X12_stepOfStatement_b600 R h kk
                              · replace h := q_ifn h c
                                refine ⟨fun c => ?_, fun c => ?_⟩
                                · replace h := q_ifp h c
                                  obtain ⟨y45, v1, h1, h⟩ := q_bdi h
                                  refine b_X12_pop R h1 (fun T44 R q => ?_)
                                  subst q
                                  refine ⟨fun c => ?_, fun c => ?_⟩
                                  · replace h := q_ifp h c
                                    exact b_X12_stepOfStatement_b450 R h kk
                                  · replace h := q_ifn h c
                                    exact b_X12_stepOfStatement_b450 R h kk
                                · replace h := q_ifn h c
                                  refine ⟨fun c => ?_, fun c => ?_⟩
                                  · replace h := q_ifp h c
                                    obtain ⟨v1, h1, h⟩ := q_bvi h
                                    refine b_X12_beginsEach R h1 (fun T48 R q => ?_)
                                    subst q
                                    exact b_X12_stepOfStatement_b600 R h kk
                                  · replace h := q_ifn h c
                                    refine ⟨fun c => ?_, fun c => ?_⟩
                                    · replace h := q_ifp h c
                                      obtain ⟨v1, h1, h⟩ := q_bvi h
                                      refine b_X12_testsEach R h1 (fun T50 R q => ?_)
                                      subst q
                                      exact b_X12_stepOfStatement_b600 R h kk
                                    · replace h := q_ifn h c
                                      refine ⟨fun c => ?_, fun c => ?_⟩
                                      · replace h := q_ifp h c
                                        obtain ⟨v1, h1, h⟩ := q_bvi h
                                        refine b_X12_leaves R h1 (fun T52 R q => ?_)
                                        subst q
                                        exact b_X12_stepOfStatement_b600 R h kk
                                      · replace h := q_ifn h c
                                        refine ⟨fun c => ?_, fun c => ?_⟩
                                        · replace h := q_ifp h c
                                          obtain ⟨y55, v1, h1, h⟩ := q_bdi h
                                          refine b_X12_pop R h1 (fun T54 R q => ?_)
                                          subst q
                                          obtain ⟨v1, h1, h⟩ := q_bvi h
                                          refine b_X12_takes R h1 (fun T56 R q => ?_)
                                          subst q
                                          exact b_X12_stepOfStatement_b600 R h kk
                                        · replace h := q_ifn h c
                                          refine ⟨fun c => ?_, fun c => ?_⟩
                                          · replace h := q_ifp h c
                                            obtain ⟨v1, h1, h⟩ := q_bvi h
                                            refine b_X12_opens R h1 (fun T58 R q => ?_)
                                            subst q
                                            refine ⟨_, q_p2452 R, ?_⟩
                                            rw [q_l2452 R]
                                            obtain ⟨hi, h⟩ := q_in h
                                            refine ⟨hi, ?_⟩
                                            refine ⟨fun c => ?_, fun c => ?_⟩
                                            · replace h := q_ifn h c
                                              exact b_X12_stepOfStatement_b518 R h kk
                                            · replace h := q_ifp h c
                                              exact b_X12_stepOfStatement_b518 R h kk
                                          · replace h := q_ifn h c
                                            refine ⟨fun c => ?_, fun c => ?_⟩
                                            · replace h := q_ifp h c
                                              obtain ⟨y63, v1, h1, h⟩ := q_bdi h
                                              refine b_X12_pop R h1 (fun T62 R q => ?_)
                                              subst q
                                              refine ⟨_, q_p2498 R, ?_⟩
                                              rw [q_l2498 R]
                                              obtain ⟨hi, h⟩ := q_in h
                                              refine ⟨hi, ?_⟩
                                              refine ⟨fun c => ?_, fun c => ?_⟩
                                              · replace h := q_ifn h c
                                                exact b_X12_stepOfStatement_b549 R h kk
                                              · replace h := q_ifp h c
                                                exact b_X12_stepOfStatement_b549 R h kk
                                            · replace h := q_ifn h c
                                              refine ⟨fun c => ?_, fun c => ?_⟩
                                              · replace h := q_ifp h c
                                                obtain ⟨v1, h1, h⟩ := q_bvi h
                                                refine b_X12_mends R h1 (fun T67 R q => ?_)
                                                subst q
                                                exact b_X12_stepOfStatement_b600 R h kk
                                              · replace h := q_ifn h c
                                                refine ⟨fun c => ?_, fun c => ?_⟩
                                                · replace h := q_ifp h c
                                                  obtain ⟨v1, h1, h⟩ := q_bvi h
                                                  refine b_X12_takeWay R h1 (fun T69 R q => ?_)
                                                  subst q
                                                  refine ⟨_, q_p2489 R, ?_⟩
                                                  rw [q_l2489 R]
                                                  obtain ⟨hi, h⟩ := q_in h
                                                  refine ⟨hi, ?_⟩
                                                  intro T71 q
                                                  obtain ⟨R, q⟩ := q_wA R q rfl
                                                  replace h := q_ltw h q
                                                  obtain ⟨v1, h1, h⟩ := q_bvi h
                                                  refine b_X12_leaves R h1 (fun T72 R q => ?_)
                                                  subst q
                                                  exact b_X12_stepOfStatement_b600 R h kk
                                                · replace h := q_ifn h c
                                                  refine ⟨fun c => ?_, fun c => ?_⟩
                                                  · replace h := q_ifp h c
                                                    exact b_X12_stepOfStatement_b594 R h kk
                                                  · replace h := q_ifn h c
                                                    refine ⟨fun c => ?_, fun c => ?_⟩
                                                    · replace h := q_ifp h c
                                                      intro T75 q
                                                      obtain ⟨R, q⟩ := q_wI R q rfl rfl
                                                      replace h := q_ltw h q
                                                      exact b_X12_stepOfStatement_b600 R h kk
                                                    · replace h := q_ifn h c
                                                      refine ⟨fun c => ?_, fun c => ?_⟩
                                                      · replace h := q_ifp h c
                                                        obtain ⟨y78, v1, h1, h⟩ := q_bdi h
                                                        refine b_X12_burns R h1 (fun T77 R q => ?_)
                                                        subst q
                                                        refine ⟨fun c => ?_, fun c => ?_⟩
                                                        · replace h := q_ifp h c
                                                          exact b_X12_stepOfStatement_b600 R h kk
                                                        · replace h := q_ifn h c
                                                          obtain ⟨v1, h1, h⟩ := q_bvi h
                                                          refine b_X12_rounds R h1 (fun T79 R q => ?_)
                                                          subst q
                                                          exact b_X12_stepOfStatement_b600 R h kk
                                                      · replace h := q_ifn h c
                                                        refine ⟨fun c => ?_, fun c => ?_⟩
                                                        · replace h := q_ifp h c
                                                          obtain ⟨y83, v1, h1, h⟩ := q_bdi h
                                                          refine b_X12_pop R h1 (fun T82 R q => ?_)
                                                          subst q
                                                          refine ⟨fun c => ?_, fun c => ?_⟩
                                                          · replace h := q_ifn h c
                                                            obtain ⟨v1, h1, h⟩ := q_bvi h
                                                            refine b_X12_rounds R h1 (fun T84 R q => ?_)
                                                            subst q
                                                            exact b_X12_stepOfStatement_b600 R h kk
                                                          · replace h := q_ifp h c
                                                            intro T85 q
                                                            obtain ⟨R, q⟩ := q_wI R q rfl rfl
                                                            replace h := q_ltw h q
                                                            exact b_X12_stepOfStatement_b600 R h kk
                                                        · replace h := q_ifn h c
                                                          refine ⟨fun c => ?_, fun c => ?_⟩
                                                          · replace h := q_ifp h c
                                                            obtain ⟨y89, v1, h1, h⟩ := q_bdi h
                                                            refine b_X12_pop R h1 (fun T88 R q => ?_)
                                                            subst q
                                                            refine ⟨_, q_p2515 R, ?_⟩
                                                            rw [q_l2515 R]
                                                            obtain ⟨hi, h⟩ := q_in h
                                                            refine ⟨hi, ?_⟩
                                                            refine ⟨fun c => ?_, fun c => ?_⟩
                                                            · replace h := q_ifn h c
                                                              exact b_X12_stepOfStatement_b390 R h kk
                                                            · replace h := q_ifp h c
                                                              exact b_X12_stepOfStatement_b390 R h kk
                                                          · replace h := q_ifn h c
                                                            refine ⟨fun c => ?_, fun c => ?_⟩
                                                            · replace h := q_ifp h c
                                                              obtain ⟨v1, h1, h⟩ := q_bvi h
                                                              refine b_X12_chooses R h1 (fun T93 R q => ?_)
                                                              subst q
                                                              exact b_X12_stepOfStatement_b600 R h kk
                                                            · replace h := q_ifn h c
                                                              refine ⟨fun c => ?_, fun c => ?_⟩
                                                              · replace h := q_ifp h c
                                                                obtain ⟨v1, h1, h⟩ := q_bvi h
                                                                refine b_X12_opens R h1 (fun T95 R q => ?_)
                                                                subst q
                                                                exact b_X12_stepOfStatement_b600 R h kk
                                                              · replace h := q_ifn h c
                                                                refine ⟨fun c => ?_, fun c => ?_⟩
                                                                · replace h := q_ifp h c
                                                                  obtain ⟨y98, v1, h1, h⟩ := q_bdi h
                                                                  refine b_X12_pop R h1 (fun T97 R q => ?_)
                                                                  subst q
                                                                  refine ⟨fun c => ?_, fun c => ?_⟩
                                                                  · replace h := q_ifp h c
                                                                    exact b_X12_stepOfStatement_b430 R h kk
                                                                  · replace h := q_ifn h c
                                                                    exact b_X12_stepOfStatement_b430 R h kk
                                                                · replace h := q_ifn h c
                                                                  exact b_X12_stepOfStatement_b594 R h kk
def fX12_step_b436 (Sn : q_V) : Option q_V :=
  some Sn
theorem b_X12_step_b436 {g : q_G} {S0 : kp_S} {Sn : kp_S} {post : kp_S → Prop} {v : q_V} (R : q_Gd 2 g S0 Sn)  (h : fX12_step_b436 (q_w g Sn) = some v) (kk : ∀ S, q_Gd 2 g S0 S → v = q_w g S → post S) : wX12_step_b436 (g 0 12 0) Sn post := by
  unfold wX12_step_b436; unfold fX12_step_b436 at h
  exact q_finv h kk R
def fX12_step_b260 (xt0 : Int32) (Sn : q_V) : Option q_V :=
  q_bv (fX12_push xt0 Sn) (fun T2001 =>
  fX12_step_b436 T2001)
theorem b_X12_step_b260 {g : q_G} {S0 : kp_S} {xt0 : Int32} {Sn : kp_S} {post : kp_S → Prop} {v : q_V} (R : q_Gd 2 g S0 Sn)  (h : fX12_step_b260 xt0 (q_w g Sn) = some v) (kk : ∀ S, q_Gd 2 g S0 S → v = q_w g S → post S) : wX12_step_b260 (g 0 12 0) xt0 (g 0 12 0) Sn post := by
  unfold wX12_step_b260; unfold fX12_step_b260 at h
  obtain ⟨v1, h1, h⟩ := q_bvi h
  refine b_X12_push R h1 (fun T2001 R q => ?_)
  subst q
  exact b_X12_step_b436 R h kk
def fX12_step_b431 (xn1 : Int32) (Sn : q_V) : Option q_V :=
  q_bv (fX12_reckon xn1 Sn) (fun T3001 =>
  fX12_step_b436 T3001)
theorem b_X12_step_b431 {g : q_G} {S0 : kp_S} {xn1 : Int32} {Sn : kp_S} {post : kp_S → Prop} {v : q_V} (R : q_Gd 2 g S0 Sn)  (h : fX12_step_b431 xn1 (q_w g Sn) = some v) (kk : ∀ S, q_Gd 2 g S0 S → v = q_w g S → post S) : wX12_step_b431 (g 0 12 0) xn1 Sn post := by
  unfold wX12_step_b431; unfold fX12_step_b431 at h
  obtain ⟨v1, h1, h⟩ := q_bvi h
  refine b_X12_reckon R h1 (fun T3001 R q => ?_)
  subst q
  exact b_X12_step_b436 R h kk
def fX12_step_b279 (xn2 : Int32) (xt0 : Int32) (Sn : q_V) : Option q_V :=
  q_bv (fX12_jumpIf xt0 1 xn2 Sn) (fun T4001 =>
  fX12_step_b436 T4001)
theorem b_X12_step_b279 {g : q_G} {S0 : kp_S} {xn2 : Int32} {xt0 : Int32} {Sn : kp_S} {post : kp_S → Prop} {v : q_V} (R : q_Gd 2 g S0 Sn)  (h : fX12_step_b279 xn2 xt0 (q_w g Sn) = some v) (kk : ∀ S, q_Gd 2 g S0 S → v = q_w g S → post S) : wX12_step_b279 (g 0 12 0) xn2 xt0 (g 0 12 0) Sn post := by
  unfold wX12_step_b279; unfold fX12_step_b279 at h
  obtain ⟨v1, h1, h⟩ := q_bvi h
  refine b_X12_jumpIf R h1 (fun T4001 R q => ?_)
  subst q
  exact b_X12_step_b436 R h kk
def fX12_step_b300 (xn2 : Int32) (xt0 : Int32) (Sn : q_V) : Option q_V :=
  q_bv (fX12_jumpIf xt0 0 xn2 Sn) (fun T5001 =>
  fX12_step_b436 T5001)
theorem b_X12_step_b300 {g : q_G} {S0 : kp_S} {xn2 : Int32} {xt0 : Int32} {Sn : kp_S} {post : kp_S → Prop} {v : q_V} (R : q_Gd 2 g S0 Sn)  (h : fX12_step_b300 xn2 xt0 (q_w g Sn) = some v) (kk : ∀ S, q_Gd 2 g S0 S → v = q_w g S → post S) : wX12_step_b300 (g 0 12 0) xn2 xt0 (g 0 12 0) Sn post := by
  unfold wX12_step_b300; unfold fX12_step_b300 at h
  obtain ⟨v1, h1, h⟩ := q_bvi h
  refine b_X12_jumpIf R h1 (fun T5001 R q => ?_)
  subst q
  exact b_X12_step_b436 R h kk
def fX12_step_b321 (xt0 : Int32) (Sn : q_V) : Option q_V :=
  q_bv (fX12_push xt0 Sn) (fun T6001 =>
  fX12_step_b436 T6001)
theorem b_X12_step_b321 {g : q_G} {S0 : kp_S} {xt0 : Int32} {Sn : kp_S} {post : kp_S → Prop} {v : q_V} (R : q_Gd 2 g S0 Sn)  (h : fX12_step_b321 xt0 (q_w g Sn) = some v) (kk : ∀ S, q_Gd 2 g S0 S → v = q_w g S → post S) : wX12_step_b321 (g 0 12 0) xt0 (g 0 12 0) Sn post := by
  unfold wX12_step_b321; unfold fX12_step_b321 at h
  obtain ⟨v1, h1, h⟩ := q_bvi h
  refine b_X12_push R h1 (fun T6001 R q => ?_)
  subst q
  exact b_X12_step_b436 R h kk
def fX12_step (S : q_V) : Option q_V :=
  if (q_i S 2510) < 0 ∨ 4000 ≤ (q_i S 2510).toNatClampNeg then none else
  q_lt ((q_a S 2448 (q_i S 2510).toNatClampNeg) : Int32) (fun y2 =>
  if (q_i S 2510) < 0 ∨ 4000 ≤ (q_i S 2510).toNatClampNeg then none else
  q_lt ((q_a S 2449 (q_i S 2510).toNatClampNeg) : Int32) (fun y4 =>
  if (q_i S 2510) < 0 ∨ 4000 ≤ (q_i S 2510).toNatClampNeg then none else
  q_lt ((q_a S 2450 (q_i S 2510).toNatClampNeg) : Int32) (fun y6 =>
  q_lt (q_si S 2510 (((q_i S 2510) + 1))) (fun T7 =>
  if y2 < 30 then
  if y2 = 1 then
  q_bv (fX12_push y4 T7) (fun T9 =>
  fX12_step_b436 T9)
  else
  if y2 = 2 then
  if ((24 * (q_i T7 2501)) + y4) < 0 ∨ 312 ≤ ((24 * (q_i T7 2501)) + y4).toNatClampNeg then none else
  q_bv (fX12_push ((q_a T7 2509 ((24 * (q_i T7 2501)) + y4).toNatClampNeg)) T7) (fun T12 =>
  fX12_step_b436 T12)
  else
  if y2 = 3 then
  q_bd (fX12_pop T7) (fun y16 T15 =>
  if ((24 * (q_i T7 2501)) + y4) < 0 ∨ 312 ≤ ((24 * (q_i T7 2501)) + y4).toNatClampNeg then none else
  q_lt (q_sa T15 2509 ((upd (q_a T15 2509) (((24 * (q_i T7 2501)) + y4).toNatClampNeg) y16))) (fun T17 =>
  fX12_step_b436 T17))
  else
  if y2 = 4 then
  q_lt (q_si T7 2516 (((q_i T7 2516) - 1))) (fun T19 =>
  fX12_step_b436 T19)
  else
  if y2 = 5 then
  q_bd (fX12_pop T7) (fun y22 T21 =>
  q_bv (fX12_push ((- y22)) T21) (fun T23 =>
  fX12_step_b436 T23))
  else
  if y2 = 6 then
  q_bd (fX12_pop T7) (fun y26 T25 =>
  if y26 = 0 then
  fX12_step_b260 1 T25
  else
  fX12_step_b260 0 T25)
  else
  if y2 = 7 then
  fX12_step_b431 y2 T7
  else
  if y2 = 8 then
  fX12_step_b431 y2 T7
  else
  if y2 = 9 then
  fX12_step_b431 y2 T7
  else
  if y2 = 10 then
  fX12_step_b431 y2 T7
  else
  if y2 = 11 then
  fX12_step_b431 y2 T7
  else
  if y2 = 12 then
  fX12_step_b431 y2 T7
  else
  if y2 = 13 then
  fX12_step_b431 y2 T7
  else
  if y2 = 14 then
  fX12_step_b431 y2 T7
  else
  if y2 = 15 then
  fX12_step_b431 y2 T7
  else
  if y2 = 16 then
  q_bd (fX12_pop T7) (fun y39 T38 =>
  if y39 = 0 then
  fX12_step_b279 y4 0 T38
  else
  fX12_step_b279 y4 1 T38)
  else
  if y2 = 17 then
  q_bd (fX12_pop T7) (fun y43 T42 =>
  if y43 = 0 then
  fX12_step_b300 y4 1 T42
  else
  fX12_step_b300 y4 0 T42)
  else
  if y2 = 18 then
  q_bd (fX12_pop T7) (fun y47 T46 =>
  if y47 = 0 then
  fX12_step_b321 0 T46
  else
  fX12_step_b321 1 T46)
  else
  if y2 = 19 then
  q_bv (fX12_calls y4 y6 T7) (fun T50 =>
  fX12_step_b436 T50)
  else
  if y2 = 20 then
  q_bd (fX12_pop T7) (fun y53 T52 =>
  q_bv (fX12_answers y53 6 y2 T52) (fun T54 =>
  fX12_step_b436 T54))
  else
  if y2 = 21 then
  q_bd (fX12_pop T7) (fun y57 T56 =>
  q_bv (fX12_answers y57 7 y2 T56) (fun T58 =>
  fX12_step_b436 T58))
  else
  if y2 = 22 then
  q_bv (fX12_answersGate T7) (fun T60 =>
  fX12_step_b436 T60)
  else
  if y2 = 23 then
  q_bd (fX12_pop T7) (fun y63 T62 =>
  q_bv (fX12_answers y63 8 y2 T62) (fun T64 =>
  fX12_step_b436 T64))
  else
  if y2 = 24 then
  q_bd (fX12_pop T7) (fun y67 T66 =>
  q_bv (fX12_answers y67 6 y2 T66) (fun T68 =>
  fX12_step_b436 T68))
  else
  if y2 = 25 then
  if (q_i T7 2501) < 0 ∨ 13 ≤ (q_i T7 2501).toNatClampNeg then none else
  q_bv (fX12_push ((q_a T7 2504 (q_i T7 2501).toNatClampNeg)) T7) (fun T71 =>
  fX12_step_b436 T71)
  else
  if y2 = 26 then
  if (q_i T7 2501) < 0 ∨ 13 ≤ (q_i T7 2501).toNatClampNeg then none else
  q_bv (fX12_push ((q_a T7 2505 (q_i T7 2501).toNatClampNeg)) T7) (fun T74 =>
  fX12_step_b436 T74)
  else
  fX12_step_b431 y2 T7
  else
  q_bv (fX12_stepOfStatement y2 y4 y6 T7) (fun T75 =>
  some T75)))))
theorem b_X12_step {g : q_G} {S0 : kp_S} {S : kp_S} {post : kp_S → Prop} {v : q_V} (R : q_Gd 2 g S0 S)  (h : fX12_step (q_w g S) = some v) (kk : ∀ S, q_Gd 2 g S0 S → v = q_w g S → post S) : wX12_step (g 0 12 0) S post := by
  unfold wX12_step; unfold fX12_step at h
  refine ⟨_, q_p2448 R, ?_⟩
  rw [q_l2448 R]
  obtain ⟨hi, h⟩ := q_in h
  refine ⟨hi, ?_⟩
  intro y2 q
  replace h := q_ltw h q
  refine ⟨_, q_p2449 R, ?_⟩
  rw [q_l2449 R]
  obtain ⟨hi, h⟩ := q_in h
  refine ⟨hi, ?_⟩
  intro y4 q
  replace h := q_ltw h q
  refine ⟨_, q_p2450 R, ?_⟩
  rw [q_l2450 R]
  obtain ⟨hi, h⟩ := q_in h
  refine ⟨hi, ?_⟩
  intro y6 q
  replace h := q_ltw h q
  intro T7 q
  obtain ⟨R, q⟩ := q_wI R q rfl rfl
  replace h := q_ltw h q
  refine ⟨fun c => ?_, fun c => ?_⟩
  · replace h := q_ifp h c
    refine ⟨fun c => ?_, fun c => ?_⟩
    · replace h := q_ifp h c
      obtain ⟨v1, h1, h⟩ := q_bvi h
      refine b_X12_push R h1 (fun T9 R q => ?_)
      subst q
      exact b_X12_step_b436 R h kk
    · replace h := q_ifn h c
      refine ⟨fun c => ?_, fun c => ?_⟩
      · replace h := q_ifp h c
        refine ⟨_, q_p2509 R, ?_⟩
        rw [q_l2509 R]
        obtain ⟨hi, h⟩ := q_in h
        refine ⟨hi, ?_⟩
        obtain ⟨v1, h1, h⟩ := q_bvi h
        refine b_X12_push R h1 (fun T12 R q => ?_)
        subst q
        exact b_X12_step_b436 R h kk
      · replace h := q_ifn h c
        refine ⟨fun c => ?_, fun c => ?_⟩
        · replace h := q_ifp h c
          refine ⟨_, q_p2509 R, ?_⟩
          obtain ⟨y16, v1, h1, h⟩ := q_bdi h
          refine b_X12_pop R h1 (fun T15 R q => ?_)
          subst q
          rw [q_l2509 R]
          obtain ⟨hi, h⟩ := q_in h
          refine ⟨hi, ?_⟩
          intro T17 q
          obtain ⟨R, q⟩ := q_wA R q rfl
          replace h := q_ltw h q
          exact b_X12_step_b436 R h kk
        · replace h := q_ifn h c
          refine ⟨fun c => ?_, fun c => ?_⟩
          · replace h := q_ifp h c
            intro T19 q
            obtain ⟨R, q⟩ := q_wI R q rfl rfl
            replace h := q_ltw h q
            exact b_X12_step_b436 R h kk
          · replace h := q_ifn h c
            refine ⟨fun c => ?_, fun c => ?_⟩
            · replace h := q_ifp h c
              obtain ⟨y22, v1, h1, h⟩ := q_bdi h
              refine b_X12_pop R h1 (fun T21 R q => ?_)
              subst q
              obtain ⟨v1, h1, h⟩ := q_bvi h
              refine b_X12_push R h1 (fun T23 R q => ?_)
              subst q
              exact b_X12_step_b436 R h kk
            · replace h := q_ifn h c
              refine ⟨fun c => ?_, fun c => ?_⟩
              · replace h := q_ifp h c
                obtain ⟨y26, v1, h1, h⟩ := q_bdi h
                refine b_X12_pop R h1 (fun T25 R q => ?_)
                subst q
                refine ⟨fun c => ?_, fun c => ?_⟩
                · replace h := q_ifn h c
                  exact b_X12_step_b260 R h kk
                · replace h := q_ifp h c
                  exact b_X12_step_b260 R h kk
              · replace h := q_ifn h c
                refine ⟨fun c => ?_, fun c => ?_⟩
                · replace h := q_ifp h c
                  exact b_X12_step_b431 R h kk
                · replace h := q_ifn h c
                  refine ⟨fun c => ?_, fun c => ?_⟩
                  · replace h := q_ifp h c
                    exact b_X12_step_b431 R h kk
                  · replace h := q_ifn h c
                    refine ⟨fun c => ?_, fun c => ?_⟩
                    · replace h := q_ifp h c
                      exact b_X12_step_b431 R h kk
                    · replace h := q_ifn h c
                      refine ⟨fun c => ?_, fun c => ?_⟩
                      · replace h := q_ifp h c
                        exact b_X12_step_b431 R h kk
                      · replace h := q_ifn h c
                        refine ⟨fun c => ?_, fun c => ?_⟩
                        · replace h := q_ifp h c
                          exact b_X12_step_b431 R h kk
                        · replace h := q_ifn h c
                          refine ⟨fun c => ?_, fun c => ?_⟩
                          · replace h := q_ifp h c
                            exact b_X12_step_b431 R h kk
                          · replace h := q_ifn h c
                            refine ⟨fun c => ?_, fun c => ?_⟩
                            · replace h := q_ifp h c
                              exact b_X12_step_b431 R h kk
                            · replace h := q_ifn h c
                              refine ⟨fun c => ?_, fun c => ?_⟩
                              · replace h := q_ifp h c
                                exact b_X12_step_b431 R h kk
                              · replace h := q_ifn h c
                                refine ⟨fun c => ?_, fun c => ?_⟩
                                · replace h := q_ifp h c
                                  exact b_X12_step_b431 R h kk
                                · replace h := q_ifn h c
                                  refine ⟨fun c => ?_, fun c => ?_⟩
                                  · replace h := q_ifp h c
                                    obtain ⟨y39, v1, h1, h⟩ := q_bdi h
                                    refine b_X12_pop R h1 (fun T38 R q => ?_)
                                    subst q
                                    refine ⟨fun c => ?_, fun c => ?_⟩
                                    · replace h := q_ifp h c
                                      exact b_X12_step_b279 R h kk
                                    · replace h := q_ifn h c
                                      exact b_X12_step_b279 R h kk
                                  · replace h := q_ifn h c
                                    refine ⟨fun c => ?_, fun c => ?_⟩
                                    · replace h := q_ifp h c
                                      obtain ⟨y43, v1, h1, h⟩ := q_bdi h
                                      refine b_X12_pop R h1 (fun T42 R q => ?_)
                                      subst q
                                      refine ⟨fun c => ?_, fun c => ?_⟩
                                      · replace h := q_ifn h c
                                        exact b_X12_step_b300 R h kk
                                      · replace h := q_ifp h c
                                        exact b_X12_step_b300 R h kk
                                    · replace h := q_ifn h c
                                      refine ⟨fun c => ?_, fun c => ?_⟩
                                      · replace h := q_ifp h c
                                        obtain ⟨y47, v1, h1, h⟩ := q_bdi h
                                        refine b_X12_pop R h1 (fun T46 R q => ?_)
                                        subst q
                                        refine ⟨fun c => ?_, fun c => ?_⟩
                                        · replace h := q_ifp h c
                                          exact b_X12_step_b321 R h kk
                                        · replace h := q_ifn h c
                                          exact b_X12_step_b321 R h kk
                                      · replace h := q_ifn h c
                                        refine ⟨fun c => ?_, fun c => ?_⟩
                                        · replace h := q_ifp h c
                                          obtain ⟨v1, h1, h⟩ := q_bvi h
                                          refine b_X12_calls R h1 (fun T50 R q => ?_)
                                          subst q
                                          exact b_X12_step_b436 R h kk
                                        · replace h := q_ifn h c
                                          refine ⟨fun c => ?_, fun c => ?_⟩
                                          · replace h := q_ifp h c
                                            obtain ⟨y53, v1, h1, h⟩ := q_bdi h
                                            refine b_X12_pop R h1 (fun T52 R q => ?_)
                                            subst q
                                            obtain ⟨v1, h1, h⟩ := q_bvi h
                                            refine b_X12_answers R h1 (fun T54 R q => ?_)
                                            subst q
                                            exact b_X12_step_b436 R h kk
                                          · replace h := q_ifn h c
                                            refine ⟨fun c => ?_, fun c => ?_⟩
                                            · replace h := q_ifp h c
                                              obtain ⟨y57, v1, h1, h⟩ := q_bdi h
                                              refine b_X12_pop R h1 (fun T56 R q => ?_)
                                              subst q
                                              obtain ⟨v1, h1, h⟩ := q_bvi h
                                              refine b_X12_answers R h1 (fun T58 R q => ?_)
                                              subst q
                                              exact b_X12_step_b436 R h kk
                                            · replace h := q_ifn h c
                                              refine ⟨fun c => ?_, fun c => ?_⟩
                                              · replace h := q_ifp h c
                                                obtain ⟨v1, h1, h⟩ := q_bvi h
                                                refine b_X12_answersGate R h1 (fun T60 R q => ?_)
                                                subst q
                                                exact b_X12_step_b436 R h kk
                                              · replace h := q_ifn h c
                                                refine ⟨fun c => ?_, fun c => ?_⟩
                                                · replace h := q_ifp h c
                                                  obtain ⟨y63, v1, h1, h⟩ := q_bdi h
                                                  refine b_X12_pop R h1 (fun T62 R q => ?_)
                                                  subst q
                                                  obtain ⟨v1, h1, h⟩ := q_bvi h
                                                  refine b_X12_answers R h1 (fun T64 R q => ?_)
                                                  subst q
                                                  exact b_X12_step_b436 R h kk
                                                · replace h := q_ifn h c
                                                  refine ⟨fun c => ?_, fun c => ?_⟩
                                                  · replace h := q_ifp h c
                                                    obtain ⟨y67, v1, h1, h⟩ := q_bdi h
                                                    refine b_X12_pop R h1 (fun T66 R q => ?_)
                                                    subst q
                                                    obtain ⟨v1, h1, h⟩ := q_bvi h
                                                    refine b_X12_answers R h1 (fun T68 R q => ?_)
                                                    subst q
                                                    exact b_X12_step_b436 R h kk
                                                  · replace h := q_ifn h c
                                                    refine ⟨fun c => ?_, fun c => ?_⟩
                                                    · replace h := q_ifp h c
                                                      refine ⟨_, q_p2504 R, ?_⟩
                                                      rw [q_l2504 R]
                                                      obtain ⟨hi, h⟩ := q_in h
                                                      refine ⟨hi, ?_⟩
                                                      obtain ⟨v1, h1, h⟩ := q_bvi h
                                                      refine b_X12_push R h1 (fun T71 R q => ?_)
                                                      subst q
                                                      exact b_X12_step_b436 R h kk
                                                    · replace h := q_ifn h c
                                                      refine ⟨fun c => ?_, fun c => ?_⟩
                                                      · replace h := q_ifp h c
                                                        refine ⟨_, q_p2505 R, ?_⟩
                                                        rw [q_l2505 R]
                                                        obtain ⟨hi, h⟩ := q_in h
                                                        refine ⟨hi, ?_⟩
                                                        obtain ⟨v1, h1, h⟩ := q_bvi h
                                                        refine b_X12_push R h1 (fun T74 R q => ?_)
                                                        subst q
                                                        exact b_X12_step_b436 R h kk
                                                      · replace h := q_ifn h c
                                                        exact b_X12_step_b431 R h kk
  · replace h := q_ifn h c
    obtain ⟨v1, h1, h⟩ := q_bvi h
    refine b_X12_stepOfStatement R h1 (fun T75 R q => ?_)
    subst q
    exact q_finv h kk R
def fX12_clear (S : q_V) : Option q_V :=
  q_lt (q_si S 2470 0) (fun T1 =>
  q_lt (q_si T1 2471 0) (fun T2 =>
  q_lt (q_si T2 2472 0) (fun T3 =>
  q_lt (q_si T3 2473 0) (fun T4 =>
  q_lt (q_si T4 2474 0) (fun T5 =>
  q_lt (q_si T5 2475 0) (fun T6 =>
  q_lt (q_si T6 2476 0) (fun T7 =>
  q_lt (q_si T7 2477 0) (fun T8 =>
  q_lt (q_si T8 2478 0) (fun T9 =>
  q_lt (q_si T9 2479 0) (fun T10 =>
  q_lt (q_si T10 2480 0) (fun T11 =>
  q_lt (q_si T11 2481 0) (fun T12 =>
  q_lt (q_si T12 2487 0) (fun T13 =>
  q_lt (q_si T13 2501 0) (fun T14 =>
  q_lt (q_si T14 2516 0) (fun T15 =>
  q_lt (q_si T15 2510 0) (fun T16 =>
  q_lt (q_si T16 2511 0) (fun T17 =>
  q_lt (q_si T17 2513 0) (fun T18 =>
  q_lt (q_si T18 2514 0) (fun T19 =>
  some T19)))))))))))))))))))
theorem b_X12_clear {g : q_G} {S0 : kp_S} {S : kp_S} {post : kp_S → Prop} {v : q_V} (R : q_Gd 2 g S0 S)  (h : fX12_clear (q_w g S) = some v) (kk : ∀ S, q_Gd 2 g S0 S → v = q_w g S → post S) : wX12_clear (g 0 12 0) S post := by
  unfold wX12_clear; unfold fX12_clear at h
  intro T1 q
  obtain ⟨R, q⟩ := q_wI R q rfl rfl
  replace h := q_ltw h q
  intro T2 q
  obtain ⟨R, q⟩ := q_wI R q rfl rfl
  replace h := q_ltw h q
  intro T3 q
  obtain ⟨R, q⟩ := q_wI R q rfl rfl
  replace h := q_ltw h q
  intro T4 q
  obtain ⟨R, q⟩ := q_wI R q rfl rfl
  replace h := q_ltw h q
  intro T5 q
  obtain ⟨R, q⟩ := q_wI R q rfl rfl
  replace h := q_ltw h q
  intro T6 q
  obtain ⟨R, q⟩ := q_wI R q rfl rfl
  replace h := q_ltw h q
  intro T7 q
  obtain ⟨R, q⟩ := q_wI R q rfl rfl
  replace h := q_ltw h q
  intro T8 q
  obtain ⟨R, q⟩ := q_wI R q rfl rfl
  replace h := q_ltw h q
  intro T9 q
  obtain ⟨R, q⟩ := q_wI R q rfl rfl
  replace h := q_ltw h q
  intro T10 q
  obtain ⟨R, q⟩ := q_wI R q rfl rfl
  replace h := q_ltw h q
  intro T11 q
  obtain ⟨R, q⟩ := q_wI R q rfl rfl
  replace h := q_ltw h q
  intro T12 q
  obtain ⟨R, q⟩ := q_wI R q rfl rfl
  replace h := q_ltw h q
  intro T13 q
  obtain ⟨R, q⟩ := q_wI R q rfl rfl
  replace h := q_ltw h q
  intro T14 q
  obtain ⟨R, q⟩ := q_wI R q rfl rfl
  replace h := q_ltw h q
  intro T15 q
  obtain ⟨R, q⟩ := q_wI R q rfl rfl
  replace h := q_ltw h q
  intro T16 q
  obtain ⟨R, q⟩ := q_wI R q rfl rfl
  replace h := q_ltw h q
  intro T17 q
  obtain ⟨R, q⟩ := q_wI R q rfl rfl
  replace h := q_ltw h q
  intro T18 q
  obtain ⟨R, q⟩ := q_wI R q rfl rfl
  replace h := q_ltw h q
  intro T19 q
  obtain ⟨R, q⟩ := q_wI R q rfl rfl
  replace h := q_ltw h q
  exact q_finv h kk R
def fX12_tellEnd_b169 (Sn : q_V) : Option q_V :=
  some Sn
theorem b_X12_tellEnd_b169 {g : q_G} {S0 : kp_S} {Sn : kp_S} {post : kp_S → Prop} {v : q_V} (R : q_Gd 2 g S0 Sn)  (h : fX12_tellEnd_b169 (q_w g Sn) = some v) (kk : ∀ S, q_Gd 2 g S0 S → v = q_w g S → post S) : wX12_tellEnd_b169 (g 0 12 0) Sn post := by
  unfold wX12_tellEnd_b169; unfold fX12_tellEnd_b169 at h
  exact q_finv h kk R
def fX12_tellEnd_b166 (xt0 : Int32) (Sn : q_V) : Option q_V :=
  q_lt (q_si Sn 2518 xt0) (fun T2001 =>
  fX12_tellEnd_b169 T2001)
theorem b_X12_tellEnd_b166 {g : q_G} {S0 : kp_S} {xt0 : Int32} {Sn : kp_S} {post : kp_S → Prop} {v : q_V} (R : q_Gd 2 g S0 Sn)  (h : fX12_tellEnd_b166 xt0 (q_w g Sn) = some v) (kk : ∀ S, q_Gd 2 g S0 S → v = q_w g S → post S) : wX12_tellEnd_b166 (g 0 12 0) xt0 (g 0 12 0) Sn post := by
  unfold wX12_tellEnd_b166; unfold fX12_tellEnd_b166 at h
  intro T2001 q
  obtain ⟨R, q⟩ := q_wI R q rfl rfl
  replace h := q_ltw h q
  exact b_X12_tellEnd_b169 R h kk
def fX12_tellEnd_b111 (xt0 : Int32) (Sn : q_V) : Option q_V :=
  q_lt (q_si Sn 2517 xt0) (fun T3001 =>
  if (q_i T3001 2481) = 4 then
  q_lt (q_si T3001 2519 ((q_i T3001 2484))) (fun T3003 =>
  q_lt (q_si T3003 2520 ((q_i T3003 2485))) (fun T3004 =>
  q_lt (q_si T3004 2522 ((q_i T3004 2486))) (fun T3005 =>
  fX12_tellEnd_b169 T3005)))
  else
  if (q_i T3001 2481) = 3 then
  fX12_tellEnd_b166 ((q_i T3001 2483)) T3001
  else
  fX12_tellEnd_b166 0 T3001)
theorem b_X12_tellEnd_b111 {g : q_G} {S0 : kp_S} {xt0 : Int32} {Sn : kp_S} {post : kp_S → Prop} {v : q_V} (R : q_Gd 2 g S0 Sn)  (h : fX12_tellEnd_b111 xt0 (q_w g Sn) = some v) (kk : ∀ S, q_Gd 2 g S0 S → v = q_w g S → post S) : wX12_tellEnd_b111 (g 0 12 0) xt0 (g 0 12 0) Sn post := by
  unfold wX12_tellEnd_b111; unfold fX12_tellEnd_b111 at h
  intro T3001 q
  obtain ⟨R, q⟩ := q_wI R q rfl rfl
  replace h := q_ltw h q
  refine ⟨fun c => ?_, fun c => ?_⟩
  · replace h := q_ifn h c
    refine ⟨fun c => ?_, fun c => ?_⟩
    · replace h := q_ifn h c
      exact b_X12_tellEnd_b166 R h kk
    · replace h := q_ifp h c
      exact b_X12_tellEnd_b166 R h kk
  · replace h := q_ifp h c
    intro T3003 q
    obtain ⟨R, q⟩ := q_wI R q rfl rfl
    replace h := q_ltw h q
    intro T3004 q
    obtain ⟨R, q⟩ := q_wI R q rfl rfl
    replace h := q_ltw h q
    intro T3005 q
    obtain ⟨R, q⟩ := q_wI R q rfl rfl
    replace h := q_ltw h q
    exact b_X12_tellEnd_b169 R h kk
def fX12_tellEnd_L69  : Nat → Int32 → q_V → Option q_V
  | 0, _, _ => none
  | n + 1, xn1, Sn =>
  if 6 ≤ xn1 then
  q_lt (q_si Sn 2517 ((q_i Sn 2513))) (fun T4001 =>
  some T4001)
  else
  if (xn1) < 0 ∨ 6 ≤ (xn1).toNatClampNeg then none else
  q_lt (q_sa Sn 2465 ((upd (q_a Sn 2465) (xn1.toNatClampNeg) 0))) (fun T4003 =>
  q_lt (xn1 + 1 : Int32) (fun y4004 =>
  fX12_tellEnd_L69 n y4004 T4003))
theorem b_X12_tellEnd_L69 {g : q_G} {S0 : kp_S} {post : kp_S → Prop} {v : q_V}  (kk : ∀ S, q_Gd 2 g S0 S → v = q_w g S → post S) : ∀ (n : Nat) (xn1 : Int32) (Sn : kp_S), q_Gd 2 g S0 Sn → fX12_tellEnd_L69  n xn1 (q_w g Sn) = some v → wX12_tellEnd_L69 (g 0 12 0) post n xn1 Sn := by
  intro n
  induction n with
  | zero => intro xn1 Sn _ h; cases h
  | succ n ih =>
    intro xn1 Sn R h
    unfold wX12_tellEnd_L69; unfold fX12_tellEnd_L69 at h
    refine ⟨fun c => ?_, fun c => ?_⟩
    · replace h := q_ifp h c
      intro T4001 q
      obtain ⟨R, q⟩ := q_wI R q rfl rfl
      replace h := q_ltw h q
      exact q_finv h kk R
    · replace h := q_ifn h c
      refine ⟨_, q_p2465 R, ?_⟩
      rw [q_l2465 R]
      obtain ⟨hi, h⟩ := q_in h
      refine ⟨hi, ?_⟩
      intro T4003 q
      obtain ⟨R, q⟩ := q_wA R q rfl
      replace h := q_ltw h q
      intro y4004 q
      replace h := q_ltw h q
      exact ih _ _ R h
def fX12_tellEnd_b57 (xt0 : Int32) (Sn : q_V) : Option q_V :=
  q_lt (q_si Sn 2521 xt0) (fun T5001 =>
  if (q_i T5001 2513) ≤ 0 then
  if (q_i T5001 2481) = 4 then
  fX12_tellEnd_b111 3 T5001
  else
  fX12_tellEnd_b111 0 T5001
  else
  fX12_tellEnd_L69 q_N 0 T5001)
theorem b_X12_tellEnd_b57 {g : q_G} {S0 : kp_S} {xt0 : Int32} {Sn : kp_S} {post : kp_S → Prop} {v : q_V} (R : q_Gd 2 g S0 Sn)  (h : fX12_tellEnd_b57 xt0 (q_w g Sn) = some v) (kk : ∀ S, q_Gd 2 g S0 S → v = q_w g S → post S) : wX12_tellEnd_b57 (g 0 12 0) xt0 (g 0 12 0) Sn post := by
  unfold wX12_tellEnd_b57; unfold fX12_tellEnd_b57 at h
  intro T5001 q
  obtain ⟨R, q⟩ := q_wI R q rfl rfl
  replace h := q_ltw h q
  refine ⟨fun c => ?_, fun c => ?_⟩
  · replace h := q_ifp h c
    refine ⟨fun c => ?_, fun c => ?_⟩
    · replace h := q_ifn h c
      exact b_X12_tellEnd_b111 R h kk
    · replace h := q_ifp h c
      exact b_X12_tellEnd_b111 R h kk
  · replace h := q_ifn h c
    exact ⟨q_N, b_X12_tellEnd_L69 kk q_N _ _ R h⟩
def fX12_tellEnd (S : q_V) : Option q_V :=
  q_lt (q_si S 2518 0) (fun T1 =>
  q_lt (q_si T1 2519 0) (fun T2 =>
  q_lt (q_si T2 2520 0) (fun T3 =>
  q_lt (q_si T3 2522 ((- 1))) (fun T4 =>
  if (q_i T4 2513) ≤ 0 then
  if (q_i T4 2481) = 4 then
  fX12_tellEnd_b57 4 T4
  else
  if (q_i T4 2481) = 3 then
  fX12_tellEnd_b57 2 T4
  else
  fX12_tellEnd_b57 1 T4
  else
  fX12_tellEnd_b57 0 T4))))
theorem b_X12_tellEnd {g : q_G} {S0 : kp_S} {S : kp_S} {post : kp_S → Prop} {v : q_V} (R : q_Gd 2 g S0 S)  (h : fX12_tellEnd (q_w g S) = some v) (kk : ∀ S, q_Gd 2 g S0 S → v = q_w g S → post S) : wX12_tellEnd (g 0 12 0) S post := by
  unfold wX12_tellEnd; unfold fX12_tellEnd at h
  intro T1 q
  obtain ⟨R, q⟩ := q_wI R q rfl rfl
  replace h := q_ltw h q
  intro T2 q
  obtain ⟨R, q⟩ := q_wI R q rfl rfl
  replace h := q_ltw h q
  intro T3 q
  obtain ⟨R, q⟩ := q_wI R q rfl rfl
  replace h := q_ltw h q
  intro T4 q
  obtain ⟨R, q⟩ := q_wI R q rfl rfl
  replace h := q_ltw h q
  refine ⟨fun c => ?_, fun c => ?_⟩
  · replace h := q_ifp h c
    refine ⟨fun c => ?_, fun c => ?_⟩
    · replace h := q_ifn h c
      refine ⟨fun c => ?_, fun c => ?_⟩
      · replace h := q_ifn h c
        exact b_X12_tellEnd_b57 R h kk
      · replace h := q_ifp h c
        exact b_X12_tellEnd_b57 R h kk
    · replace h := q_ifp h c
      exact b_X12_tellEnd_b57 R h kk
  · replace h := q_ifn h c
    exact b_X12_tellEnd_b57 R h kk
def fX12_run_b22 (x1 : Int32) (x2 : Int32) (x3 : Int32) (x4 : Int32) (Sn : q_V) : Option (Int32 × q_V) :=
  q_lt (q_si Sn 2400 1) (fun T1001 =>
  some (0, T1001))
theorem b_X12_run_b22 {g : q_G} {S0 : kp_S} {x1 : Int32} {x2 : Int32} {x3 : Int32} {x4 : Int32} {Sn : kp_S} {post : Int32 → kp_S → Prop} {y : Int32} {v : q_V} (R : q_Gd 2 g S0 Sn)  (h : fX12_run_b22 x1 x2 x3 x4 (q_w g Sn) = some (y, v)) (kk : ∀ S, q_Gd 2 g S0 S → v = q_w g S → post y S) : wX12_run_b22 (g 0 12 0) x1 x2 x3 x4 Sn post := by
  unfold wX12_run_b22; unfold fX12_run_b22 at h
  intro T1001 q
  obtain ⟨R, q⟩ := q_wI R q rfl rfl
  replace h := q_ltw h q
  exact q_fin h kk R
def fX12_run_b54 (x1 : Int32) (x2 : Int32) (x3 : Int32) (x4 : Int32) (Sn : q_V) : Option (Int32 × q_V) :=
  q_lt (q_si Sn 2400 2) (fun T2001 =>
  some (0, T2001))
theorem b_X12_run_b54 {g : q_G} {S0 : kp_S} {x1 : Int32} {x2 : Int32} {x3 : Int32} {x4 : Int32} {Sn : kp_S} {post : Int32 → kp_S → Prop} {y : Int32} {v : q_V} (R : q_Gd 2 g S0 Sn)  (h : fX12_run_b54 x1 x2 x3 x4 (q_w g Sn) = some (y, v)) (kk : ∀ S, q_Gd 2 g S0 S → v = q_w g S → post y S) : wX12_run_b54 (g 0 12 0) x1 x2 x3 x4 Sn post := by
  unfold wX12_run_b54; unfold fX12_run_b54 at h
  intro T2001 q
  obtain ⟨R, q⟩ := q_wI R q rfl rfl
  replace h := q_ltw h q
  exact q_fin h kk R
def fX12_run_b147 (x1 : Int32) (x2 : Int32) (x3 : Int32) (x4 : Int32) (Sn : q_V) : Option (Int32 × q_V) :=
  q_lt (q_si Sn 2523 ((q_i Sn 2512))) (fun T3001 =>
  q_lt (q_si T3001 2524 (((q_i T3001 2524) + (x4 - (q_i T3001 2512))))) (fun T3002 =>
  q_bv (fX12_tellEnd T3002) (fun T3003 =>
  some ((q_i T3003 2517), T3003))))
theorem b_X12_run_b147 {g : q_G} {S0 : kp_S} {x1 : Int32} {x2 : Int32} {x3 : Int32} {x4 : Int32} {Sn : kp_S} {post : Int32 → kp_S → Prop} {y : Int32} {v : q_V} (R : q_Gd 2 g S0 Sn)  (h : fX12_run_b147 x1 x2 x3 x4 (q_w g Sn) = some (y, v)) (kk : ∀ S, q_Gd 2 g S0 S → v = q_w g S → post y S) : wX12_run_b147 (g 0 12 0) x1 x2 x3 x4 Sn post := by
  unfold wX12_run_b147; unfold fX12_run_b147 at h
  intro T3001 q
  obtain ⟨R, q⟩ := q_wI R q rfl rfl
  replace h := q_ltw h q
  intro T3002 q
  obtain ⟨R, q⟩ := q_wI R q rfl rfl
  replace h := q_ltw h q
  obtain ⟨v1, h1, h⟩ := q_bvi h
  refine b_X12_tellEnd R h1 (fun T3003 R q => ?_)
  subst q
  exact q_fin h kk R
def fX12_run_L126 (x1 : Int32) (x2 : Int32) (x3 : Int32) (x4 : Int32) : Nat → q_V → Option (Int32 × q_V)
  | 0, _ => none
  | n + 1, Sn =>
  if (q_i Sn 2513) = 0 then
  if (q_i Sn 2514) = 0 then
  q_bv (fX12_step Sn) (fun T4001 =>
  fX12_run_L126 x1 x2 x3 x4 n T4001)
  else
  fX12_run_b147 x1 x2 x3 x4 Sn
  else
  fX12_run_b147 x1 x2 x3 x4 Sn
theorem b_X12_run_L126 {g : q_G} {S0 : kp_S} {x1 : Int32} {x2 : Int32} {x3 : Int32} {x4 : Int32} {post : Int32 → kp_S → Prop} {y : Int32} {v : q_V}  (kk : ∀ S, q_Gd 2 g S0 S → v = q_w g S → post y S) : ∀ (n : Nat) (Sn : kp_S), q_Gd 2 g S0 Sn → fX12_run_L126 x1 x2 x3 x4 n  (q_w g Sn) = some (y, v) → wX12_run_L126 (g 0 12 0) x1 x2 x3 x4 post n  Sn := by
  intro n
  induction n with
  | zero => intro Sn _ h; cases h
  | succ n ih =>
    intro Sn R h
    unfold wX12_run_L126; unfold fX12_run_L126 at h
    refine ⟨fun c => ?_, fun c => ?_⟩
    · replace h := q_ifn h c
      exact b_X12_run_b147 R h kk
    · replace h := q_ifp h c
      refine ⟨fun c => ?_, fun c => ?_⟩
      · replace h := q_ifn h c
        exact b_X12_run_b147 R h kk
      · replace h := q_ifp h c
        obtain ⟨v1, h1, h⟩ := q_bvi h
        refine b_X12_step R h1 (fun T4001 R q => ?_)
        subst q
        exact ih _ R h
def fX12_run_b110 (x1 : Int32) (x2 : Int32) (x3 : Int32) (x4 : Int32) (xn5 : Int32) (xn6 : Int32) (xt0 : Int32) (K82 : Int32 → Int32 → q_V → Option (Int32 × q_V)) (Sn : q_V) : Option (Int32 × q_V) :=
  q_bv (fX12_push xt0 Sn) (fun T5001 =>
  q_lt (xn6 + 1 : Int32) (fun y5002 =>
  K82 xn5 y5002 T5001))
theorem b_X12_run_b110 {g : q_G} {S0 : kp_S} {x1 : Int32} {x2 : Int32} {x3 : Int32} {x4 : Int32} {xn5 : Int32} {xn6 : Int32} {xt0 : Int32} {K82f : Int32 → Int32 → q_V → Option (Int32 × q_V)} {K82 : Int32 → Int32 → kp_S → Prop} {Sn : kp_S} {post : Int32 → kp_S → Prop} {y : Int32} {v : q_V} (R : q_Gd 2 g S0 Sn) (hK82 : ∀ (x0 : Int32) (x1 : Int32) (S : kp_S), q_Gd 2 g S0 S → K82f x0 x1 (q_w g S) = some (y, v) → K82 x0 x1 S) (h : fX12_run_b110 x1 x2 x3 x4 xn5 xn6 xt0 K82f (q_w g Sn) = some (y, v)) (kk : ∀ S, q_Gd 2 g S0 S → v = q_w g S → post y S) : wX12_run_b110 (g 0 12 0) x1 x2 x3 x4 xn5 xn6 xt0 (g 0 12 0) K82 Sn post := by
  unfold wX12_run_b110; unfold fX12_run_b110 at h
  obtain ⟨v1, h1, h⟩ := q_bvi h
  refine b_X12_push R h1 (fun T5001 R q => ?_)
  subst q
  intro y5002 q
  replace h := q_ltw h q
  exact hK82 _ _ _ R h
def fX12_run_L82 (x1 : Int32) (x2 : Int32) (x3 : Int32) (x4 : Int32) : Nat → Int32 → Int32 → q_V → Option (Int32 × q_V)
  | 0, _, _, _ => none
  | n + 1, xn5, xn6, Sn =>
  if xn5 ≤ xn6 then
  q_bv (fX12_calls x1 xn5 Sn) (fun T6001 =>
  fX12_run_L126 x1 x2 x3 x4 q_N T6001)
  else
  if xn6 = 0 then
  fX12_run_b110 x1 x2 x3 x4 xn5 xn6 x2 (fun xn5_ xn6_ S_ => fX12_run_L82 x1 x2 x3 x4 n xn5_ xn6_ S_) Sn
  else
  if xn6 = 1 then
  fX12_run_b110 x1 x2 x3 x4 xn5 xn6 x3 (fun xn5_ xn6_ S_ => fX12_run_L82 x1 x2 x3 x4 n xn5_ xn6_ S_) Sn
  else
  fX12_run_b110 x1 x2 x3 x4 xn5 xn6 0 (fun xn5_ xn6_ S_ => fX12_run_L82 x1 x2 x3 x4 n xn5_ xn6_ S_) Sn
theorem b_X12_run_L82 {g : q_G} {S0 : kp_S} {x1 : Int32} {x2 : Int32} {x3 : Int32} {x4 : Int32} {post : Int32 → kp_S → Prop} {y : Int32} {v : q_V}  (kk : ∀ S, q_Gd 2 g S0 S → v = q_w g S → post y S) : ∀ (n : Nat) (xn5 : Int32) (xn6 : Int32) (Sn : kp_S), q_Gd 2 g S0 Sn → fX12_run_L82 x1 x2 x3 x4 n xn5 xn6 (q_w g Sn) = some (y, v) → wX12_run_L82 (g 0 12 0) x1 x2 x3 x4 post n xn5 xn6 Sn := by
  intro n
  induction n with
  | zero => intro xn5 xn6 Sn _ h; cases h
  | succ n ih =>
    intro xn5 xn6 Sn R h
    unfold wX12_run_L82; unfold fX12_run_L82 at h
    refine ⟨fun c => ?_, fun c => ?_⟩
    · replace h := q_ifp h c
      obtain ⟨v1, h1, h⟩ := q_bvi h
      refine b_X12_calls R h1 (fun T6001 R q => ?_)
      subst q
      exact ⟨q_N, b_X12_run_L126 kk q_N _ R h⟩
    · replace h := q_ifn h c
      refine ⟨fun c => ?_, fun c => ?_⟩
      · replace h := q_ifn h c
        refine ⟨fun c => ?_, fun c => ?_⟩
        · replace h := q_ifn h c
          exact b_X12_run_b110 R (fun xn5_ xn6_ S_ R h => ih xn5_ xn6_ S_ R h) h kk
        · replace h := q_ifp h c
          exact b_X12_run_b110 R (fun xn5_ xn6_ S_ R h => ih xn5_ xn6_ S_ R h) h kk
      · replace h := q_ifp h c
        exact b_X12_run_b110 R (fun xn5_ xn6_ S_ R h => ih xn5_ xn6_ S_ R h) h kk
def fX12_run (x1 : Int32) (x2 : Int32) (x3 : Int32) (x4 : Int32) (S : q_V) : Option (Int32 × q_V) :=
  q_lt (q_si S 2400 0) (fun T1 =>
  if (q_i T1 2447) = 0 then
  fX12_run_b22 x1 x2 x3 x4 T1
  else
  if (q_i T1 2524) < 200000 then
  if x1 < 0 then
  fX12_run_b54 x1 x2 x3 x4 T1
  else
  if (q_i T1 2462) ≤ x1 then
  fX12_run_b54 x1 x2 x3 x4 T1
  else
  if x4 < 0 then
  fX12_run_b54 x1 x2 x3 x4 T1
  else
  if x4 ≤ 20000 then
  q_bv (fX12_clear T1) (fun T2 =>
  q_lt (q_si T2 2512 x4) (fun T3 =>
  if (x1) < 0 ∨ 30 ≤ (x1).toNatClampNeg then none else
  q_lt ((q_a T3 2458 x1.toNatClampNeg) : Int32) (fun y5 =>
  fX12_run_L82 x1 x2 x3 x4 q_N y5 0 T3)))
  else
  fX12_run_b54 x1 x2 x3 x4 T1
  else
  fX12_run_b22 x1 x2 x3 x4 T1)
theorem b_X12_run {g : q_G} {S0 : kp_S} {x1 : Int32} {x2 : Int32} {x3 : Int32} {x4 : Int32} {S : kp_S} {post : Int32 → kp_S → Prop} {y : Int32} {v : q_V} (R : q_Gd 2 g S0 S)  (h : fX12_run x1 x2 x3 x4 (q_w g S) = some (y, v)) (kk : ∀ S, q_Gd 2 g S0 S → v = q_w g S → post y S) : wX12_run (g 0 12 0) x1 x2 x3 x4 S post := by
  unfold wX12_run; unfold fX12_run at h
  intro T1 q
  obtain ⟨R, q⟩ := q_wI R q rfl rfl
  replace h := q_ltw h q
  refine ⟨fun c => ?_, fun c => ?_⟩
  · replace h := q_ifp h c
    exact b_X12_run_b22 R h kk
  · replace h := q_ifn h c
    refine ⟨fun c => ?_, fun c => ?_⟩
    · replace h := q_ifp h c
      refine ⟨fun c => ?_, fun c => ?_⟩
      · replace h := q_ifp h c
        exact b_X12_run_b54 R h kk
      · replace h := q_ifn h c
        refine ⟨fun c => ?_, fun c => ?_⟩
        · replace h := q_ifp h c
          exact b_X12_run_b54 R h kk
        · replace h := q_ifn h c
          refine ⟨fun c => ?_, fun c => ?_⟩
          · replace h := q_ifp h c
            exact b_X12_run_b54 R h kk
          · replace h := q_ifn h c
            refine ⟨fun c => ?_, fun c => ?_⟩
            · replace h := q_ifp h c
              obtain ⟨v1, h1, h⟩ := q_bvi h
              refine b_X12_clear R h1 (fun T2 R q => ?_)
              subst q
              intro T3 q
              obtain ⟨R, q⟩ := q_wI R q rfl rfl
              replace h := q_ltw h q
              refine ⟨_, q_p2458 R, ?_⟩
              rw [q_l2458 R]
              obtain ⟨hi, h⟩ := q_in h
              refine ⟨hi, ?_⟩
              intro y5 q
              replace h := q_ltw h q
              exact ⟨q_N, b_X12_run_L82 kk q_N _ _ _ R h⟩
            · replace h := q_ifn h c
              exact b_X12_run_b54 R h kk
    · replace h := q_ifn h c
      exact b_X12_run_b22 R h kk
def fX12_told (x1 : Int32) (S : q_V) : Option (Int32 × q_V) :=
  q_lt (q_si S 2400 0) (fun T1 =>
  if x1 = 0 then
  some ((q_i T1 2517), T1)
  else
  if x1 = 1 then
  some ((q_i T1 2518), T1)
  else
  if x1 = 2 then
  some ((q_i T1 2519), T1)
  else
  if x1 = 3 then
  some ((q_i T1 2520), T1)
  else
  if x1 = 4 then
  some ((q_i T1 2522), T1)
  else
  if x1 = 5 then
  some ((q_i T1 2523), T1)
  else
  if x1 = 6 then
  some ((q_i T1 2471), T1)
  else
  if x1 = 7 then
  some ((q_i T1 2472), T1)
  else
  if x1 = 8 then
  some ((q_i T1 2473), T1)
  else
  if x1 = 9 then
  some ((q_i T1 2474), T1)
  else
  if x1 = 10 then
  some ((q_i T1 2475), T1)
  else
  if x1 = 11 then
  some ((q_i T1 2476), T1)
  else
  if x1 = 12 then
  some ((q_i T1 2477), T1)
  else
  if x1 = 13 then
  some ((q_i T1 2478), T1)
  else
  if x1 = 14 then
  some ((q_i T1 2479), T1)
  else
  if x1 = 15 then
  some ((q_i T1 2480), T1)
  else
  if x1 = 16 then
  some ((q_i T1 2470), T1)
  else
  if x1 = 17 then
  some ((q_i T1 2524), T1)
  else
  if x1 = 18 then
  some ((q_i T1 2521), T1)
  else
  some ((- 1), T1))
theorem b_X12_told {g : q_G} {S0 : kp_S} {x1 : Int32} {S : kp_S} {post : Int32 → kp_S → Prop} {y : Int32} {v : q_V} (R : q_Gd 2 g S0 S)  (h : fX12_told x1 (q_w g S) = some (y, v)) (kk : ∀ S, q_Gd 2 g S0 S → v = q_w g S → post y S) : wX12_told (g 0 12 0) x1 S post := by
  unfold wX12_told; unfold fX12_told at h
  intro T1 q
  obtain ⟨R, q⟩ := q_wI R q rfl rfl
  replace h := q_ltw h q
  refine ⟨fun c => ?_, fun c => ?_⟩
  · replace h := q_ifp h c
    exact q_fin h kk R
  · replace h := q_ifn h c
    refine ⟨fun c => ?_, fun c => ?_⟩
    · replace h := q_ifp h c
      exact q_fin h kk R
    · replace h := q_ifn h c
      refine ⟨fun c => ?_, fun c => ?_⟩
      · replace h := q_ifp h c
        exact q_fin h kk R
      · replace h := q_ifn h c
        refine ⟨fun c => ?_, fun c => ?_⟩
        · replace h := q_ifp h c
          exact q_fin h kk R
        · replace h := q_ifn h c
          refine ⟨fun c => ?_, fun c => ?_⟩
          · replace h := q_ifp h c
            exact q_fin h kk R
          · replace h := q_ifn h c
            refine ⟨fun c => ?_, fun c => ?_⟩
            · replace h := q_ifp h c
              exact q_fin h kk R
            · replace h := q_ifn h c
              refine ⟨fun c => ?_, fun c => ?_⟩
              · replace h := q_ifp h c
                exact q_fin h kk R
              · replace h := q_ifn h c
                refine ⟨fun c => ?_, fun c => ?_⟩
                · replace h := q_ifp h c
                  exact q_fin h kk R
                · replace h := q_ifn h c
                  refine ⟨fun c => ?_, fun c => ?_⟩
                  · replace h := q_ifp h c
                    exact q_fin h kk R
                  · replace h := q_ifn h c
                    refine ⟨fun c => ?_, fun c => ?_⟩
                    · replace h := q_ifp h c
                      exact q_fin h kk R
                    · replace h := q_ifn h c
                      refine ⟨fun c => ?_, fun c => ?_⟩
                      · replace h := q_ifp h c
                        exact q_fin h kk R
                      · replace h := q_ifn h c
                        refine ⟨fun c => ?_, fun c => ?_⟩
                        · replace h := q_ifp h c
                          exact q_fin h kk R
                        · replace h := q_ifn h c
                          refine ⟨fun c => ?_, fun c => ?_⟩
                          · replace h := q_ifp h c
                            exact q_fin h kk R
                          · replace h := q_ifn h c
                            refine ⟨fun c => ?_, fun c => ?_⟩
                            · replace h := q_ifp h c
                              exact q_fin h kk R
                            · replace h := q_ifn h c
                              refine ⟨fun c => ?_, fun c => ?_⟩
                              · replace h := q_ifp h c
                                exact q_fin h kk R
                              · replace h := q_ifn h c
                                refine ⟨fun c => ?_, fun c => ?_⟩
                                · replace h := q_ifp h c
                                  exact q_fin h kk R
                                · replace h := q_ifn h c
                                  refine ⟨fun c => ?_, fun c => ?_⟩
                                  · replace h := q_ifp h c
                                    exact q_fin h kk R
                                  · replace h := q_ifn h c
                                    refine ⟨fun c => ?_, fun c => ?_⟩
                                    · replace h := q_ifp h c
                                      exact q_fin h kk R
                                    · replace h := q_ifn h c
                                      refine ⟨fun c => ?_, fun c => ?_⟩
                                      · replace h := q_ifp h c
                                        exact q_fin h kk R
                                      · replace h := q_ifn h c
                                        exact q_fin h kk R
def fX12_log_b26 (x1 : Int32) (x2 : Int32) (Sn : q_V) : Option (Int32 × q_V) :=
  some ((- 1), Sn)
theorem b_X12_log_b26 {g : q_G} {S0 : kp_S} {x1 : Int32} {x2 : Int32} {Sn : kp_S} {post : Int32 → kp_S → Prop} {y : Int32} {v : q_V} (R : q_Gd 2 g S0 Sn)  (h : fX12_log_b26 x1 x2 (q_w g Sn) = some (y, v)) (kk : ∀ S, q_Gd 2 g S0 S → v = q_w g S → post y S) : wX12_log_b26 (g 0 12 0) x1 x2 Sn post := by
  unfold wX12_log_b26; unfold fX12_log_b26 at h
  exact q_fin h kk R
def fX12_log_b56 (x1 : Int32) (x2 : Int32) (xt0 : Int32) (Sn : q_V) : Option (Int32 × q_V) :=
  some (xt0, Sn)
theorem b_X12_log_b56 {g : q_G} {S0 : kp_S} {x1 : Int32} {x2 : Int32} {xt0 : Int32} {Sn : kp_S} {post : Int32 → kp_S → Prop} {y : Int32} {v : q_V} (R : q_Gd 2 g S0 Sn)  (h : fX12_log_b56 x1 x2 xt0 (q_w g Sn) = some (y, v)) (kk : ∀ S, q_Gd 2 g S0 S → v = q_w g S → post y S) : wX12_log_b56 (g 0 12 0) x1 x2 xt0 Sn post := by
  unfold wX12_log_b56; unfold fX12_log_b56 at h
  exact q_fin h kk R
def fX12_log (x1 : Int32) (x2 : Int32) (S : q_V) : Option (Int32 × q_V) :=
  q_lt (q_si S 2400 0) (fun T1 =>
  q_bd (fX12_in x1 0 (((q_i T1 2470) - 1)) T1) (fun y3 T2 =>
  if y3 = 0 then
  fX12_log_b26 x1 x2 T2
  else
  if x1 < 300 then
  if x2 = 0 then
  if (x1) < 0 ∨ 300 ≤ (x1).toNatClampNeg then none else
  fX12_log_b56 x1 x2 ((q_a T2 2468 x1.toNatClampNeg)) T2
  else
  if x2 = 1 then
  if (x1) < 0 ∨ 300 ≤ (x1).toNatClampNeg then none else
  fX12_log_b56 x1 x2 ((q_a T2 2469 x1.toNatClampNeg)) T2
  else
  fX12_log_b56 x1 x2 ((- 1)) T2
  else
  fX12_log_b26 x1 x2 T2))
theorem b_X12_log {g : q_G} {S0 : kp_S} {x1 : Int32} {x2 : Int32} {S : kp_S} {post : Int32 → kp_S → Prop} {y : Int32} {v : q_V} (R : q_Gd 2 g S0 S)  (h : fX12_log x1 x2 (q_w g S) = some (y, v)) (kk : ∀ S, q_Gd 2 g S0 S → v = q_w g S → post y S) : wX12_log (g 0 12 0) x1 x2 S post := by
  unfold wX12_log; unfold fX12_log at h
  intro T1 q
  obtain ⟨R, q⟩ := q_wI R q rfl rfl
  replace h := q_ltw h q
  obtain ⟨y3, v1, h1, h⟩ := q_bdi h
  refine b_X12_in R h1 (fun T2 R q => ?_)
  subst q
  refine ⟨fun c => ?_, fun c => ?_⟩
  · replace h := q_ifp h c
    exact b_X12_log_b26 R h kk
  · replace h := q_ifn h c
    refine ⟨fun c => ?_, fun c => ?_⟩
    · replace h := q_ifp h c
      refine ⟨fun c => ?_, fun c => ?_⟩
      · replace h := q_ifn h c
        refine ⟨fun c => ?_, fun c => ?_⟩
        · replace h := q_ifn h c
          exact b_X12_log_b56 R h kk
        · replace h := q_ifp h c
          refine ⟨_, q_p2469 R, ?_⟩
          rw [q_l2469 R]
          obtain ⟨hi, h⟩ := q_in h
          refine ⟨hi, ?_⟩
          exact b_X12_log_b56 R h kk
      · replace h := q_ifp h c
        refine ⟨_, q_p2468 R, ?_⟩
        rw [q_l2468 R]
        obtain ⟨hi, h⟩ := q_in h
        refine ⟨hi, ?_⟩
        exact b_X12_log_b56 R h kk
    · replace h := q_ifn h c
      exact b_X12_log_b26 R h kk
