/-! The functions of the methods, and the rows that they speak for the w. (generated: wip/whole/gen2.py) -/
def fX12_duty_b148 (xn2 : Int32) (Sn : q_V) : Option q_V :=
  q_bv (fX12_takeSign 41 Sn) (fun T1001 =>
  if (xn2) < 0 ∨ 320 ≤ (xn2).toNatClampNeg then none else
  q_lt (q_sa T1001 2428 ((upd (q_a T1001 2428) (xn2.toNatClampNeg) (q_i T1001 2442)))) (fun T1003 =>
  if (xn2) < 0 ∨ 320 ≤ (xn2).toNatClampNeg then none else
  q_lt (q_sa T1003 2430 ((upd (q_a T1003 2430) (xn2.toNatClampNeg) (q_i T1003 2417)))) (fun T1005 =>
  q_lt (q_sj T1005 2426 0) (fun T1006 =>
  q_bd (fX12_block_t T1006) (fun z1008 T1007 =>
  q_bd (fX12_emit 48 0 0 T1007) (fun y1010 T1009 =>
  if (xn2) < 0 ∨ 320 ≤ (xn2).toNatClampNeg then none else
  q_lt (q_sa T1009 2429 ((upd (q_a T1009 2429) (xn2.toNatClampNeg) (q_i T1009 2442)))) (fun T1012 =>
  if (xn2) < 0 ∨ 320 ≤ (xn2).toNatClampNeg then none else
  q_lt (q_sa T1012 2432 ((upd (q_a T1012 2432) (xn2.toNatClampNeg) ((z1008 ||| ((q_j T1012 2426) &&& 6) : Int64).toInt32)))) (fun T1014 =>
  some T1014))))))))
theorem b_X12_duty_b148 {g : q_G} {S0 : kp_S} {xn2 : Int32} {Sn : kp_S} {post : kp_S → Prop} {v : q_V} (R : q_Gd 2 g S0 Sn)  (h : fX12_duty_b148 xn2 (q_w g Sn) = some v) (kk : ∀ S, q_Gd 2 g S0 S → v = q_w g S → post S) : wX12_duty_b148 (g 0 12 0) xn2 Sn post := by
  unfold wX12_duty_b148; unfold fX12_duty_b148 at h
  obtain ⟨v1, h1, h⟩ := q_bvi h
  refine b_X12_takeSign R h1 (fun T1001 R q => ?_)
  subst q
  refine ⟨_, q_p2428 R, ?_⟩
  rw [q_l2428 R]
  obtain ⟨hi, h⟩ := q_in h
  refine ⟨hi, ?_⟩
  intro T1003 q
  obtain ⟨R, q⟩ := q_wA R q rfl
  replace h := q_ltw h q
  refine ⟨_, q_p2430 R, ?_⟩
  rw [q_l2430 R]
  obtain ⟨hi, h⟩ := q_in h
  refine ⟨hi, ?_⟩
  intro T1005 q
  obtain ⟨R, q⟩ := q_wA R q rfl
  replace h := q_ltw h q
  intro T1006 q
  obtain ⟨R, q⟩ := q_wJ R q rfl rfl
  replace h := q_ltw h q
  obtain ⟨z1008, v1, h1, h⟩ := q_bdi h
  refine b_X12_block_t R h1 (fun T1007 R q => ?_)
  subst q
  obtain ⟨y1010, v1, h1, h⟩ := q_bdi h
  refine b_X12_emit R h1 (fun T1009 R q => ?_)
  subst q
  refine ⟨_, q_p2429 R, ?_⟩
  rw [q_l2429 R]
  obtain ⟨hi, h⟩ := q_in h
  refine ⟨hi, ?_⟩
  intro T1012 q
  obtain ⟨R, q⟩ := q_wA R q rfl
  replace h := q_ltw h q
  refine ⟨_, q_p2432 R, ?_⟩
  rw [q_l2432 R]
  obtain ⟨hi, h⟩ := q_in h
  refine ⟨hi, ?_⟩
  intro T1014 q
  obtain ⟨R, q⟩ := q_wA R q rfl
  replace h := q_ltw h q
  exact q_finv h kk R
def fX12_duty_L134  : Nat → Int32 → q_V → Option q_V
  | 0, _, _ => none
  | n + 1, xn2, Sn =>
  q_bv (fX12_parameter Sn) (fun T2001 =>
  q_bd (fX12_skip 144 T2001) (fun y2003 T2002 =>
  if y2003 = 0 then
  fX12_duty_b148 xn2 T2002
  else
  fX12_duty_L134 n xn2 T2002))
theorem b_X12_duty_L134 {g : q_G} {S0 : kp_S} {post : kp_S → Prop} {v : q_V}  (kk : ∀ S, q_Gd 2 g S0 S → v = q_w g S → post S) : ∀ (n : Nat) (xn2 : Int32) (Sn : kp_S), q_Gd 2 g S0 Sn → fX12_duty_L134  n xn2 (q_w g Sn) = some v → wX12_duty_L134 (g 0 12 0) post n xn2 Sn := by
  intro n
  induction n with
  | zero => intro xn2 Sn _ h; cases h
  | succ n ih =>
    intro xn2 Sn R h
    unfold wX12_duty_L134; unfold fX12_duty_L134 at h
    obtain ⟨v1, h1, h⟩ := q_bvi h
    refine b_X12_parameter R h1 (fun T2001 R q => ?_)
    subst q
    obtain ⟨y2003, v1, h1, h⟩ := q_bdi h
    refine b_X12_skip R h1 (fun T2002 R q => ?_)
    subst q
    refine ⟨fun c => ?_, fun c => ?_⟩
    · replace h := q_ifn h c
      exact ih _ _ R h
    · replace h := q_ifp h c
      exact b_X12_duty_b148 R h kk
def fX12_duty_b60 (xn1 : Int32) (Sn : q_V) : Option q_V :=
  q_lt ((q_i Sn 2433) : Int32) (fun y3001 =>
  if (xn1) < 0 ∨ 3002 ≤ (xn1).toNatClampNeg then none else
  if (y3001) < 0 ∨ 320 ≤ (y3001).toNatClampNeg then none else
  q_lt (q_sb Sn 2427 ((vp_updL (q_b Sn 2427) (y3001.toNatClampNeg) (q_b Sn 2406 xn1.toNatClampNeg)))) (fun T3004 =>
  if (xn1) < 0 ∨ 3002 ≤ (xn1).toNatClampNeg then none else
  if (y3001) < 0 ∨ 320 ≤ (y3001).toNatClampNeg then none else
  q_lt (q_sa T3004 2431 ((upd (q_a T3004 2431) (y3001.toNatClampNeg) (q_a T3004 2405 xn1.toNatClampNeg)))) (fun T3007 =>
  q_lt (q_si T3007 2433 (((q_i T3007 2433) + 1))) (fun T3008 =>
  q_lt (q_si T3008 2441 0) (fun T3009 =>
  q_lt (q_si T3009 2442 0) (fun T3010 =>
  q_lt (q_si T3010 2445 0) (fun T3011 =>
  q_lt (q_si T3011 2446 0) (fun T3012 =>
  q_bv (fX12_takeSign 40 T3012) (fun T3013 =>
  q_bd (fX12_isSign 41 T3013) (fun y3015 T3014 =>
  if y3015 = 0 then
  fX12_duty_L134 q_N y3001 T3014
  else
  fX12_duty_b148 y3001 T3014))))))))))
theorem b_X12_duty_b60 {g : q_G} {S0 : kp_S} {xn1 : Int32} {Sn : kp_S} {post : kp_S → Prop} {v : q_V} (R : q_Gd 2 g S0 Sn)  (h : fX12_duty_b60 xn1 (q_w g Sn) = some v) (kk : ∀ S, q_Gd 2 g S0 S → v = q_w g S → post S) : wX12_duty_b60 (g 0 12 0) xn1 Sn post := by
  unfold wX12_duty_b60; unfold fX12_duty_b60 at h
  intro y3001 q
  replace h := q_ltw h q
  refine ⟨_, q_p2427 R, ?_⟩
  refine ⟨_, q_p2406 R, ?_⟩
  rw [q_l2406 R]
  obtain ⟨hi, h⟩ := q_in h
  refine ⟨hi, ?_⟩
  rw [q_l2427 R]
  obtain ⟨hi, h⟩ := q_in h
  refine ⟨hi, ?_⟩
  intro T3004 q
  obtain ⟨R, q⟩ := q_wB R q rfl
  replace h := q_ltw h q
  refine ⟨_, q_p2431 R, ?_⟩
  refine ⟨_, q_p2405 R, ?_⟩
  rw [q_l2405 R]
  obtain ⟨hi, h⟩ := q_in h
  refine ⟨hi, ?_⟩
  rw [q_l2431 R]
  obtain ⟨hi, h⟩ := q_in h
  refine ⟨hi, ?_⟩
  intro T3007 q
  obtain ⟨R, q⟩ := q_wA R q rfl
  replace h := q_ltw h q
  intro T3008 q
  obtain ⟨R, q⟩ := q_wI R q rfl rfl
  replace h := q_ltw h q
  intro T3009 q
  obtain ⟨R, q⟩ := q_wI R q rfl rfl
  replace h := q_ltw h q
  intro T3010 q
  obtain ⟨R, q⟩ := q_wI R q rfl rfl
  replace h := q_ltw h q
  intro T3011 q
  obtain ⟨R, q⟩ := q_wI R q rfl rfl
  replace h := q_ltw h q
  intro T3012 q
  obtain ⟨R, q⟩ := q_wI R q rfl rfl
  replace h := q_ltw h q
  obtain ⟨v1, h1, h⟩ := q_bvi h
  refine b_X12_takeSign R h1 (fun T3013 R q => ?_)
  subst q
  obtain ⟨y3015, v1, h1, h⟩ := q_bdi h
  refine b_X12_isSign R h1 (fun T3014 R q => ?_)
  subst q
  refine ⟨fun c => ?_, fun c => ?_⟩
  · replace h := q_ifn h c
    exact b_X12_duty_b148 R h kk
  · replace h := q_ifp h c
    exact ⟨q_N, b_X12_duty_L134 kk q_N _ _ R h⟩
def fX12_duty_b44 (xn1 : Int32) (Sn : q_V) : Option q_V :=
  if (q_i Sn 2433) < 30 then
  fX12_duty_b60 xn1 Sn
  else
  q_bv (fX12_bad 8 xn1 Sn) (fun T4001 =>
  fX12_duty_b60 xn1 T4001)
theorem b_X12_duty_b44 {g : q_G} {S0 : kp_S} {xn1 : Int32} {Sn : kp_S} {post : kp_S → Prop} {v : q_V} (R : q_Gd 2 g S0 Sn)  (h : fX12_duty_b44 xn1 (q_w g Sn) = some v) (kk : ∀ S, q_Gd 2 g S0 S → v = q_w g S → post S) : wX12_duty_b44 (g 0 12 0) xn1 Sn post := by
  unfold wX12_duty_b44; unfold fX12_duty_b44 at h
  refine ⟨fun c => ?_, fun c => ?_⟩
  · replace h := q_ifp h c
    exact b_X12_duty_b60 R h kk
  · replace h := q_ifn h c
    obtain ⟨v1, h1, h⟩ := q_bvi h
    refine b_X12_bad R h1 (fun T4001 R q => ?_)
    subst q
    exact b_X12_duty_b60 R h kk
def fX12_duty (S : q_V) : Option q_V :=
  q_bv (fX12_take 10 S) (fun T1 =>
  q_lt ((q_i T1 2410) : Int32) (fun y2 =>
  q_bv (fX12_take 2 T1) (fun T3 =>
  q_bd (fX12_fine T3) (fun y5 T4 =>
  if y5 = 0 then
  some T4
  else
  if (y2) < 0 ∨ 3002 ≤ (y2).toNatClampNeg then none else
  q_bd (fX12_dutyOf ((q_b T4 2406 y2.toNatClampNeg)) T4) (fun y8 T7 =>
  if y8 = (- 1) then
  fX12_duty_b44 y2 T7
  else
  q_bv (fX12_bad 4 y2 T7) (fun T9 =>
  fX12_duty_b44 y2 T9))))))
theorem b_X12_duty {g : q_G} {S0 : kp_S} {S : kp_S} {post : kp_S → Prop} {v : q_V} (R : q_Gd 2 g S0 S)  (h : fX12_duty (q_w g S) = some v) (kk : ∀ S, q_Gd 2 g S0 S → v = q_w g S → post S) : wX12_duty (g 0 12 0) S post := by
  unfold wX12_duty; unfold fX12_duty at h
  obtain ⟨v1, h1, h⟩ := q_bvi h
  refine b_X12_take R h1 (fun T1 R q => ?_)
  subst q
  intro y2 q
  replace h := q_ltw h q
  obtain ⟨v1, h1, h⟩ := q_bvi h
  refine b_X12_take R h1 (fun T3 R q => ?_)
  subst q
  obtain ⟨y5, v1, h1, h⟩ := q_bdi h
  refine b_X12_fine R h1 (fun T4 R q => ?_)
  subst q
  refine ⟨fun c => ?_, fun c => ?_⟩
  · replace h := q_ifn h c
    refine ⟨_, q_p2406 R, ?_⟩
    rw [q_l2406 R]
    obtain ⟨hi, h⟩ := q_in h
    refine ⟨hi, ?_⟩
    obtain ⟨y8, v1, h1, h⟩ := q_bdi h
    refine b_X12_dutyOf R h1 (fun T7 R q => ?_)
    subst q
    refine ⟨fun c => ?_, fun c => ?_⟩
    · replace h := q_ifp h c
      exact b_X12_duty_b44 R h kk
    · replace h := q_ifn h c
      obtain ⟨v1, h1, h⟩ := q_bvi h
      refine b_X12_bad R h1 (fun T9 R q => ?_)
      subst q
      exact b_X12_duty_b44 R h kk
  · replace h := q_ifp h c
    exact q_finv h kk R
def fX12_text_b115 (Sn : q_V) : Option q_V :=
  some Sn
theorem b_X12_text_b115 {g : q_G} {S0 : kp_S} {Sn : kp_S} {post : kp_S → Prop} {v : q_V} (R : q_Gd 2 g S0 Sn)  (h : fX12_text_b115 (q_w g Sn) = some v) (kk : ∀ S, q_Gd 2 g S0 S → v = q_w g S → post S) : wX12_text_b115 (g 0 12 0) Sn post := by
  unfold wX12_text_b115; unfold fX12_text_b115 at h
  exact q_finv h kk R
def fX12_text_b97 (xn1 : Int32) (xn2 : Int32) (K25 : Int32 → q_V → Option q_V) (Sn : q_V) : Option q_V :=
  if (xn1) < 0 ∨ 1600 ≤ (xn1).toNatClampNeg then none else
  if (q_a Sn 2437 xn1.toNatClampNeg) < 0 ∨ 4000 ≤ (q_a Sn 2437 xn1.toNatClampNeg).toNatClampNeg then none else
  q_lt (q_sa Sn 2415 ((upd (q_a Sn 2415) ((q_a Sn 2437 xn1.toNatClampNeg).toNatClampNeg) xn2))) (fun T2003 =>
  q_lt (xn1 + 1 : Int32) (fun y2004 =>
  K25 y2004 T2003))
theorem b_X12_text_b97 {g : q_G} {S0 : kp_S} {xn1 : Int32} {xn2 : Int32} {K25f : Int32 → q_V → Option q_V} {K25 : Int32 → kp_S → Prop} {Sn : kp_S} {post : kp_S → Prop} {v : q_V} (R : q_Gd 2 g S0 Sn) (hK25 : ∀ (x0 : Int32) (S : kp_S), q_Gd 2 g S0 S → K25f x0 (q_w g S) = some v → K25 x0 S) (h : fX12_text_b97 xn1 xn2 K25f (q_w g Sn) = some v) (kk : ∀ S, q_Gd 2 g S0 S → v = q_w g S → post S) : wX12_text_b97 (g 0 12 0) xn1 xn2 K25 Sn post := by
  unfold wX12_text_b97; unfold fX12_text_b97 at h
  refine ⟨_, q_p2415 R, ?_⟩
  refine ⟨_, q_p2437 R, ?_⟩
  rw [q_l2437 R]
  obtain ⟨hi, h⟩ := q_in h
  refine ⟨hi, ?_⟩
  rw [q_l2415 R]
  obtain ⟨hi, h⟩ := q_in h
  refine ⟨hi, ?_⟩
  intro T2003 q
  obtain ⟨R, q⟩ := q_wA R q rfl
  replace h := q_ltw h q
  intro y2004 q
  replace h := q_ltw h q
  exact hK25 _ _ R h
def fX12_text_L25  : Nat → Int32 → q_V → Option q_V
  | 0, _, _ => none
  | n + 1, xn1, Sn =>
  if (q_i Sn 2438) ≤ xn1 then
  fX12_text_b115 Sn
  else
  q_bd (fX12_fine Sn) (fun y3002 T3001 =>
  if y3002 = 0 then
  fX12_text_b115 T3001
  else
  if (xn1) < 0 ∨ 1600 ≤ (xn1).toNatClampNeg then none else
  q_bd (fX12_dutyOf ((q_b T3001 2434 xn1.toNatClampNeg)) T3001) (fun y3005 T3004 =>
  if y3005 = (- 1) then
  if (xn1) < 0 ∨ 1600 ≤ (xn1).toNatClampNeg then none else
  q_bv (fX12_bad 5 ((q_a T3004 2435 xn1.toNatClampNeg)) T3004) (fun T3012 =>
  fX12_text_b97 xn1 y3005 (fun xn1_ S_ => fX12_text_L25 n xn1_ S_) T3012)
  else
  if (y3005) < 0 ∨ 320 ≤ (y3005).toNatClampNeg then none else
  if (xn1) < 0 ∨ 1600 ≤ (xn1).toNatClampNeg then none else
  if (q_a T3004 2428 y3005.toNatClampNeg) = (q_a T3004 2436 xn1.toNatClampNeg) then
  fX12_text_b97 xn1 y3005 (fun xn1_ S_ => fX12_text_L25 n xn1_ S_) T3004
  else
  if (xn1) < 0 ∨ 1600 ≤ (xn1).toNatClampNeg then none else
  q_bv (fX12_bad 7 ((q_a T3004 2435 xn1.toNatClampNeg)) T3004) (fun T3009 =>
  fX12_text_b97 xn1 y3005 (fun xn1_ S_ => fX12_text_L25 n xn1_ S_) T3009)))
theorem b_X12_text_L25 {g : q_G} {S0 : kp_S} {post : kp_S → Prop} {v : q_V}  (kk : ∀ S, q_Gd 2 g S0 S → v = q_w g S → post S) : ∀ (n : Nat) (xn1 : Int32) (Sn : kp_S), q_Gd 2 g S0 Sn → fX12_text_L25  n xn1 (q_w g Sn) = some v → wX12_text_L25 (g 0 12 0) post n xn1 Sn := by
  intro n
  induction n with
  | zero => intro xn1 Sn _ h; cases h
  | succ n ih =>
    intro xn1 Sn R h
    unfold wX12_text_L25; unfold fX12_text_L25 at h
    refine ⟨fun c => ?_, fun c => ?_⟩
    · replace h := q_ifp h c
      exact b_X12_text_b115 R h kk
    · replace h := q_ifn h c
      obtain ⟨y3002, v1, h1, h⟩ := q_bdi h
      refine b_X12_fine R h1 (fun T3001 R q => ?_)
      subst q
      refine ⟨fun c => ?_, fun c => ?_⟩
      · replace h := q_ifp h c
        exact b_X12_text_b115 R h kk
      · replace h := q_ifn h c
        refine ⟨_, q_p2434 R, ?_⟩
        rw [q_l2434 R]
        obtain ⟨hi, h⟩ := q_in h
        refine ⟨hi, ?_⟩
        obtain ⟨y3005, v1, h1, h⟩ := q_bdi h
        refine b_X12_dutyOf R h1 (fun T3004 R q => ?_)
        subst q
        refine ⟨fun c => ?_, fun c => ?_⟩
        · replace h := q_ifn h c
          refine ⟨_, q_p2428 R, ?_⟩
          rw [q_l2428 R]
          obtain ⟨hi, h⟩ := q_in h
          refine ⟨hi, ?_⟩
          refine ⟨_, q_p2436 R, ?_⟩
          rw [q_l2436 R]
          obtain ⟨hi, h⟩ := q_in h
          refine ⟨hi, ?_⟩
          refine ⟨fun c => ?_, fun c => ?_⟩
          · replace h := q_ifp h c
            exact b_X12_text_b97 R (fun xn1_ S_ R h => ih xn1_ S_ R h) h kk
          · replace h := q_ifn h c
            refine ⟨_, q_p2435 R, ?_⟩
            rw [q_l2435 R]
            obtain ⟨hi, h⟩ := q_in h
            refine ⟨hi, ?_⟩
            obtain ⟨v1, h1, h⟩ := q_bvi h
            refine b_X12_bad R h1 (fun T3009 R q => ?_)
            subst q
            exact b_X12_text_b97 R (fun xn1_ S_ R h => ih xn1_ S_ R h) h kk
        · replace h := q_ifp h c
          refine ⟨_, q_p2435 R, ?_⟩
          rw [q_l2435 R]
          obtain ⟨hi, h⟩ := q_in h
          refine ⟨hi, ?_⟩
          obtain ⟨v1, h1, h⟩ := q_bvi h
          refine b_X12_bad R h1 (fun T3012 R q => ?_)
          subst q
          exact b_X12_text_b97 R (fun xn1_ S_ R h => ih xn1_ S_ R h) h kk
def fX12_text_b23 (Sn : q_V) : Option q_V :=
  fX12_text_L25 q_N 0 Sn
theorem b_X12_text_b23 {g : q_G} {S0 : kp_S} {Sn : kp_S} {post : kp_S → Prop} {v : q_V} (R : q_Gd 2 g S0 Sn)  (h : fX12_text_b23 (q_w g Sn) = some v) (kk : ∀ S, q_Gd 2 g S0 S → v = q_w g S → post S) : wX12_text_b23 (g 0 12 0) Sn post := by
  unfold wX12_text_b23; unfold fX12_text_b23 at h
  exact ⟨q_N, b_X12_text_L25 kk q_N _ _ R h⟩
def fX12_text_L0  : Nat → q_V → Option q_V
  | 0, _ => none
  | n + 1, Sn =>
  q_bv (fX12_duty Sn) (fun T5001 =>
  q_bd (fX12_fine T5001) (fun y5003 T5002 =>
  if y5003 = 0 then
  fX12_text_b23 T5002
  else
  if (q_i T5002 2410) < 0 ∨ 3002 ≤ (q_i T5002 2410).toNatClampNeg then none else
  if (q_a T5002 2404 (q_i T5002 2410).toNatClampNeg) = 0 then
  fX12_text_b23 T5002
  else
  fX12_text_L0 n T5002))
theorem b_X12_text_L0 {g : q_G} {S0 : kp_S} {post : kp_S → Prop} {v : q_V}  (kk : ∀ S, q_Gd 2 g S0 S → v = q_w g S → post S) : ∀ (n : Nat) (Sn : kp_S), q_Gd 2 g S0 Sn → fX12_text_L0  n  (q_w g Sn) = some v → wX12_text_L0 (g 0 12 0) post n  Sn := by
  intro n
  induction n with
  | zero => intro Sn _ h; cases h
  | succ n ih =>
    intro Sn R h
    unfold wX12_text_L0; unfold fX12_text_L0 at h
    obtain ⟨v1, h1, h⟩ := q_bvi h
    refine b_X12_duty R h1 (fun T5001 R q => ?_)
    subst q
    obtain ⟨y5003, v1, h1, h⟩ := q_bdi h
    refine b_X12_fine R h1 (fun T5002 R q => ?_)
    subst q
    refine ⟨fun c => ?_, fun c => ?_⟩
    · replace h := q_ifp h c
      exact b_X12_text_b23 R h kk
    · replace h := q_ifn h c
      refine ⟨_, q_p2404 R, ?_⟩
      rw [q_l2404 R]
      obtain ⟨hi, h⟩ := q_in h
      refine ⟨hi, ?_⟩
      refine ⟨fun c => ?_, fun c => ?_⟩
      · replace h := q_ifn h c
        exact ih _ R h
      · replace h := q_ifp h c
        exact b_X12_text_b23 R h kk
def fX12_text (S : q_V) : Option q_V :=
  q_bv (fX12_duty S) (fun T1 =>
  q_bd (fX12_fine T1) (fun y3 T2 =>
  if y3 = 0 then
  fX12_text_b23 T2
  else
  if (q_i T2 2410) < 0 ∨ 3002 ≤ (q_i T2 2410).toNatClampNeg then none else
  if (q_a T2 2404 (q_i T2 2410).toNatClampNeg) = 0 then
  fX12_text_b23 T2
  else
  fX12_text_L0 q_N T2))
theorem b_X12_text {g : q_G} {S0 : kp_S} {S : kp_S} {post : kp_S → Prop} {v : q_V} (R : q_Gd 2 g S0 S)  (h : fX12_text (q_w g S) = some v) (kk : ∀ S, q_Gd 2 g S0 S → v = q_w g S → post S) : wX12_text (g 0 12 0) S post := by
  unfold wX12_text; unfold fX12_text at h
  obtain ⟨v1, h1, h⟩ := q_bvi h
  refine b_X12_duty R h1 (fun T1 R q => ?_)
  subst q
  obtain ⟨y3, v1, h1, h⟩ := q_bdi h
  refine b_X12_fine R h1 (fun T2 R q => ?_)
  subst q
  refine ⟨fun c => ?_, fun c => ?_⟩
  · replace h := q_ifp h c
    exact b_X12_text_b23 R h kk
  · replace h := q_ifn h c
    refine ⟨_, q_p2404 R, ?_⟩
    rw [q_l2404 R]
    obtain ⟨hi, h⟩ := q_in h
    refine ⟨hi, ?_⟩
    refine ⟨fun c => ?_, fun c => ?_⟩
    · replace h := q_ifn h c
      exact ⟨q_N, b_X12_text_L0 kk q_N _ R h⟩
    · replace h := q_ifp h c
      exact b_X12_text_b23 R h kk
def fX12_read_b104 (Sn : q_V) : Option (Int32 × q_V) :=
  some ((q_i Sn 2408), Sn)
theorem b_X12_read_b104 {g : q_G} {S0 : kp_S} {Sn : kp_S} {post : Int32 → kp_S → Prop} {y : Int32} {v : q_V} (R : q_Gd 2 g S0 Sn)  (h : fX12_read_b104 (q_w g Sn) = some (y, v)) (kk : ∀ S, q_Gd 2 g S0 S → v = q_w g S → post y S) : wX12_read_b104 (g 0 12 0) Sn post := by
  unfold wX12_read_b104; unfold fX12_read_b104 at h
  exact q_fin h kk R
def fX12_read_b93 (Sn : q_V) : Option (Int32 × q_V) :=
  if (q_i Sn 2408) = 0 then
  q_bv (fX12_keep Sn) (fun T2001 =>
  fX12_read_b104 T2001)
  else
  fX12_read_b104 Sn
theorem b_X12_read_b93 {g : q_G} {S0 : kp_S} {Sn : kp_S} {post : Int32 → kp_S → Prop} {y : Int32} {v : q_V} (R : q_Gd 2 g S0 Sn)  (h : fX12_read_b93 (q_w g Sn) = some (y, v)) (kk : ∀ S, q_Gd 2 g S0 S → v = q_w g S → post y S) : wX12_read_b93 (g 0 12 0) Sn post := by
  unfold wX12_read_b93; unfold fX12_read_b93 at h
  refine ⟨fun c => ?_, fun c => ?_⟩
  · replace h := q_ifn h c
    exact b_X12_read_b104 R h kk
  · replace h := q_ifp h c
    obtain ⟨v1, h1, h⟩ := q_bvi h
    refine b_X12_keep R h1 (fun T2001 R q => ?_)
    subst q
    exact b_X12_read_b104 R h kk
def fX12_read (S : q_V) : Option (Int32 × q_V) :=
  q_lt (q_si S 2400 0) (fun T1 =>
  q_bv (fX12_scan T1) (fun T2 =>
  q_lt (q_si T2 2402 0) (fun T3 =>
  q_lt (q_si T3 2408 0) (fun T4 =>
  q_lt (q_si T4 2409 ((- 1))) (fun T5 =>
  q_lt (q_si T5 2412 0) (fun T6 =>
  q_lt (q_si T6 2410 0) (fun T7 =>
  q_lt (q_si T7 2411 0) (fun T8 =>
  q_lt (q_si T8 2417 0) (fun T9 =>
  q_lt (q_si T9 2424 0) (fun T10 =>
  q_lt (q_si T10 2433 0) (fun T11 =>
  q_lt (q_si T11 2438 0) (fun T12 =>
  q_bv (fX12_text T12) (fun T13 =>
  if (q_i T13 2408) = 0 then
  if (q_i T13 2412) ≤ 0 then
  fX12_read_b93 T13
  else
  q_lt (q_si T13 2408 ((q_i T13 2412))) (fun T14 =>
  q_lt (q_si T14 2409 ((q_i T14 2413))) (fun T15 =>
  fX12_read_b93 T15))
  else
  fX12_read_b93 T13)))))))))))))
theorem b_X12_read {g : q_G} {S0 : kp_S} {S : kp_S} {post : Int32 → kp_S → Prop} {y : Int32} {v : q_V} (R : q_Gd 2 g S0 S)  (h : fX12_read (q_w g S) = some (y, v)) (kk : ∀ S, q_Gd 2 g S0 S → v = q_w g S → post y S) : wX12_read (g 0 12 0) S post := by
  unfold wX12_read; unfold fX12_read at h
  intro T1 q
  obtain ⟨R, q⟩ := q_wI R q rfl rfl
  replace h := q_ltw h q
  obtain ⟨v1, h1, h⟩ := q_bvi h
  refine b_X12_scan R h1 (fun T2 R q => ?_)
  subst q
  intro T3 q
  obtain ⟨R, q⟩ := q_wI R q rfl rfl
  replace h := q_ltw h q
  intro T4 q
  obtain ⟨R, q⟩ := q_wI R q rfl rfl
  replace h := q_ltw h q
  intro T5 q
  obtain ⟨R, q⟩ := q_wI R q rfl rfl
  replace h := q_ltw h q
  intro T6 q
  obtain ⟨R, q⟩ := q_wI R q rfl rfl
  replace h := q_ltw h q
  intro T7 q
  obtain ⟨R, q⟩ := q_wI R q rfl rfl
  replace h := q_ltw h q
  intro T8 q
  obtain ⟨R, q⟩ := q_wI R q rfl rfl
  replace h := q_ltw h q
  intro T9 q
  obtain ⟨R, q⟩ := q_wI R q rfl rfl
  replace h := q_ltw h q
  intro T10 q
  obtain ⟨R, q⟩ := q_wI R q rfl rfl
  replace h := q_ltw h q
  intro T11 q
  obtain ⟨R, q⟩ := q_wI R q rfl rfl
  replace h := q_ltw h q
  intro T12 q
  obtain ⟨R, q⟩ := q_wI R q rfl rfl
  replace h := q_ltw h q
  obtain ⟨v1, h1, h⟩ := q_bvi h
  refine b_X12_text R h1 (fun T13 R q => ?_)
  subst q
  refine ⟨fun c => ?_, fun c => ?_⟩
  · replace h := q_ifn h c
    exact b_X12_read_b93 R h kk
  · replace h := q_ifp h c
    refine ⟨fun c => ?_, fun c => ?_⟩
    · replace h := q_ifp h c
      exact b_X12_read_b93 R h kk
    · replace h := q_ifn h c
      intro T14 q
      obtain ⟨R, q⟩ := q_wI R q rfl rfl
      replace h := q_ltw h q
      intro T15 q
      obtain ⟨R, q⟩ := q_wI R q rfl rfl
      replace h := q_ltw h q
      exact b_X12_read_b93 R h kk
