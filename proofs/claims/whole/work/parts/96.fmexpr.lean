/-! The functions of the methods, and the rows that they speak for the w. (generated: wip/whole/gen2.py) -/
def fX12_both_L4 (U : q_V → Option q_V) (N : q_V → Option q_V) : Nat → q_V → Option q_V
  | 0, _ => none
  | n + 1, Sn =>
  q_bd (fX12_skip 31 Sn) (fun y1002 T1001 =>
  if y1002 = 0 then
  some T1001
  else
  q_bd (fX12_emit 17 0 0 T1001) (fun y1004 T1003 =>
  q_bv (N T1003) (fun T1005 =>
  q_bd (fX12_emit 18 0 0 T1005) (fun y1007 T1006 =>
  if (y1004) < 0 ∨ 4000 ≤ (y1004).toNatClampNeg then none else
  q_lt (q_sa T1006 2415 ((upd (q_a T1006 2415) (y1004.toNatClampNeg) (q_i T1006 2417)))) (fun T1009 =>
  fX12_both_L4 U N n T1009)))))
theorem b_X12_both_L4 {g : q_G} {S0 : kp_S} {Uf : q_V → Option q_V} {U : Nat → kp_S → (kp_S → Prop) → Prop} {Nf : q_V → Option q_V} {N : Nat → kp_S → (kp_S → Prop) → Prop} {post : kp_S → Prop} {v : q_V} (hU : ∀ (S : kp_S) (v : q_V) (post : kp_S → Prop), q_Gd 2 g S0 S → Uf (q_w g S) = some v → (∀ S, q_Gd 2 g S0 S → v = q_w g S → post S) → U (g 0 12 0) S post) (hN : ∀ (S : kp_S) (v : q_V) (post : kp_S → Prop), q_Gd 2 g S0 S → Nf (q_w g S) = some v → (∀ S, q_Gd 2 g S0 S → v = q_w g S → post S) → N (g 0 12 0) S post) (kk : ∀ S, q_Gd 2 g S0 S → v = q_w g S → post S) : ∀ (n : Nat) (Sn : kp_S), q_Gd 2 g S0 Sn → fX12_both_L4 Uf Nf n  (q_w g Sn) = some v → wX12_both_L4 U N (g 0 12 0) post n  Sn := by
  intro n
  induction n with
  | zero => intro Sn _ h; cases h
  | succ n ih =>
    intro Sn R h
    unfold wX12_both_L4; unfold fX12_both_L4 at h
    obtain ⟨y1002, v1, h1, h⟩ := q_bdi h
    refine b_X12_skip R h1 (fun T1001 R q => ?_)
    subst q
    refine ⟨fun c => ?_, fun c => ?_⟩
    · replace h := q_ifp h c
      exact q_finv h kk R
    · replace h := q_ifn h c
      obtain ⟨y1004, v1, h1, h⟩ := q_bdi h
      refine b_X12_emit R h1 (fun T1003 R q => ?_)
      subst q
      obtain ⟨v1, h1, h⟩ := q_bvi h
      refine hN _ _ _ R h1 (fun T1005 R q => ?_)
      subst q
      obtain ⟨y1007, v1, h1, h⟩ := q_bdi h
      refine b_X12_emit R h1 (fun T1006 R q => ?_)
      subst q
      refine ⟨_, q_p2415 R, ?_⟩
      rw [q_l2415 R]
      obtain ⟨hi, h⟩ := q_in h
      refine ⟨hi, ?_⟩
      intro T1009 q
      obtain ⟨R, q⟩ := q_wA R q rfl
      replace h := q_ltw h q
      exact ih _ R h
def fX12_both (U : q_V → Option q_V) (N : q_V → Option q_V) (S : q_V) : Option q_V :=
  q_bv (N S) (fun T1 =>
  fX12_both_L4 U N q_N T1)
theorem b_X12_both {g : q_G} {S0 : kp_S} {Uf : q_V → Option q_V} {U : Nat → kp_S → (kp_S → Prop) → Prop} {Nf : q_V → Option q_V} {N : Nat → kp_S → (kp_S → Prop) → Prop} {S : kp_S} {post : kp_S → Prop} {v : q_V} (R : q_Gd 2 g S0 S) (hU : ∀ (S : kp_S) (v : q_V) (post : kp_S → Prop), q_Gd 2 g S0 S → Uf (q_w g S) = some v → (∀ S, q_Gd 2 g S0 S → v = q_w g S → post S) → U (g 0 12 0) S post) (hN : ∀ (S : kp_S) (v : q_V) (post : kp_S → Prop), q_Gd 2 g S0 S → Nf (q_w g S) = some v → (∀ S, q_Gd 2 g S0 S → v = q_w g S → post S) → N (g 0 12 0) S post) (h : fX12_both Uf Nf (q_w g S) = some v) (kk : ∀ S, q_Gd 2 g S0 S → v = q_w g S → post S) : wX12_both U N (g 0 12 0) S post := by
  unfold wX12_both; unfold fX12_both at h
  obtain ⟨v1, h1, h⟩ := q_bvi h
  refine hN _ _ _ R h1 (fun T1 R q => ?_)
  subst q
  exact ⟨q_N, b_X12_both_L4 hU hN kk q_N _ R h⟩
def fX12_expression_L4 (U : q_V → Option q_V) (N : q_V → Option q_V) : Nat → q_V → Option q_V
  | 0, _ => none
  | n + 1, Sn =>
  q_bd (fX12_skip 30 Sn) (fun y1002 T1001 =>
  if y1002 = 0 then
  some T1001
  else
  q_bd (fX12_emit 16 0 0 T1001) (fun y1004 T1003 =>
  q_bv (fX12_both U N T1003) (fun T1005 =>
  q_bd (fX12_emit 18 0 0 T1005) (fun y1007 T1006 =>
  if (y1004) < 0 ∨ 4000 ≤ (y1004).toNatClampNeg then none else
  q_lt (q_sa T1006 2415 ((upd (q_a T1006 2415) (y1004.toNatClampNeg) (q_i T1006 2417)))) (fun T1009 =>
  fX12_expression_L4 U N n T1009)))))
theorem b_X12_expression_L4 {g : q_G} {S0 : kp_S} {Uf : q_V → Option q_V} {U : Nat → kp_S → (kp_S → Prop) → Prop} {Nf : q_V → Option q_V} {N : Nat → kp_S → (kp_S → Prop) → Prop} {post : kp_S → Prop} {v : q_V} (hU : ∀ (S : kp_S) (v : q_V) (post : kp_S → Prop), q_Gd 2 g S0 S → Uf (q_w g S) = some v → (∀ S, q_Gd 2 g S0 S → v = q_w g S → post S) → U (g 0 12 0) S post) (hN : ∀ (S : kp_S) (v : q_V) (post : kp_S → Prop), q_Gd 2 g S0 S → Nf (q_w g S) = some v → (∀ S, q_Gd 2 g S0 S → v = q_w g S → post S) → N (g 0 12 0) S post) (kk : ∀ S, q_Gd 2 g S0 S → v = q_w g S → post S) : ∀ (n : Nat) (Sn : kp_S), q_Gd 2 g S0 Sn → fX12_expression_L4 Uf Nf n  (q_w g Sn) = some v → wX12_expression_L4 U N (g 0 12 0) post n  Sn := by
  intro n
  induction n with
  | zero => intro Sn _ h; cases h
  | succ n ih =>
    intro Sn R h
    unfold wX12_expression_L4; unfold fX12_expression_L4 at h
    obtain ⟨y1002, v1, h1, h⟩ := q_bdi h
    refine b_X12_skip R h1 (fun T1001 R q => ?_)
    subst q
    refine ⟨fun c => ?_, fun c => ?_⟩
    · replace h := q_ifp h c
      exact q_finv h kk R
    · replace h := q_ifn h c
      obtain ⟨y1004, v1, h1, h⟩ := q_bdi h
      refine b_X12_emit R h1 (fun T1003 R q => ?_)
      subst q
      obtain ⟨v1, h1, h⟩ := q_bvi h
      refine b_X12_both R hU hN h1 (fun T1005 R q => ?_)
      subst q
      obtain ⟨y1007, v1, h1, h⟩ := q_bdi h
      refine b_X12_emit R h1 (fun T1006 R q => ?_)
      subst q
      refine ⟨_, q_p2415 R, ?_⟩
      rw [q_l2415 R]
      obtain ⟨hi, h⟩ := q_in h
      refine ⟨hi, ?_⟩
      intro T1009 q
      obtain ⟨R, q⟩ := q_wA R q rfl
      replace h := q_ltw h q
      exact ih _ R h
def fX12_expression (U : q_V → Option q_V) (N : q_V → Option q_V) (S : q_V) : Option q_V :=
  q_bv (fX12_both U N S) (fun T1 =>
  fX12_expression_L4 U N q_N T1)
theorem b_X12_expression {g : q_G} {S0 : kp_S} {Uf : q_V → Option q_V} {U : Nat → kp_S → (kp_S → Prop) → Prop} {Nf : q_V → Option q_V} {N : Nat → kp_S → (kp_S → Prop) → Prop} {S : kp_S} {post : kp_S → Prop} {v : q_V} (R : q_Gd 2 g S0 S) (hU : ∀ (S : kp_S) (v : q_V) (post : kp_S → Prop), q_Gd 2 g S0 S → Uf (q_w g S) = some v → (∀ S, q_Gd 2 g S0 S → v = q_w g S → post S) → U (g 0 12 0) S post) (hN : ∀ (S : kp_S) (v : q_V) (post : kp_S → Prop), q_Gd 2 g S0 S → Nf (q_w g S) = some v → (∀ S, q_Gd 2 g S0 S → v = q_w g S → post S) → N (g 0 12 0) S post) (h : fX12_expression Uf Nf (q_w g S) = some v) (kk : ∀ S, q_Gd 2 g S0 S → v = q_w g S → post S) : wX12_expression U N (g 0 12 0) S post := by
  unfold wX12_expression; unfold fX12_expression at h
  obtain ⟨v1, h1, h⟩ := q_bvi h
  refine b_X12_both R hU hN h1 (fun T1 R q => ?_)
  subst q
  exact ⟨q_N, b_X12_expression_L4 hU hN kk q_N _ R h⟩
def fX12_call_b32 (U : q_V → Option q_V) (N : q_V → Option q_V) (x1 : Int32) (xn2 : Int32) (Sn : q_V) : Option q_V :=
  q_bv (fX12_takeSign 41 Sn) (fun T1001 =>
  q_lt (q_si T1001 2411 (((q_i T1001 2411) - 1))) (fun T1002 =>
  q_bd (fX12_fine T1002) (fun y1004 T1003 =>
  if y1004 = 0 then
  some T1003
  else
  q_lt (q_si T1003 2425 1) (fun T1005 =>
  if (x1) < 0 ∨ 3002 ≤ (x1).toNatClampNeg then none else
  if (q_i T1005 2438) < 0 ∨ 1600 ≤ (q_i T1005 2438).toNatClampNeg then none else
  q_lt (q_sb T1005 2434 ((vp_updL (q_b T1005 2434) ((q_i T1005 2438).toNatClampNeg) (q_b T1005 2406 x1.toNatClampNeg)))) (fun T1008 =>
  if (q_i T1008 2438) < 0 ∨ 1600 ≤ (q_i T1008 2438).toNatClampNeg then none else
  q_lt (q_sa T1008 2435 ((upd (q_a T1008 2435) ((q_i T1008 2438).toNatClampNeg) x1))) (fun T1010 =>
  if (q_i T1010 2438) < 0 ∨ 1600 ≤ (q_i T1010 2438).toNatClampNeg then none else
  q_lt (q_sa T1010 2436 ((upd (q_a T1010 2436) ((q_i T1010 2438).toNatClampNeg) xn2))) (fun T1012 =>
  q_bd (fX12_emit 19 ((- 1)) xn2 T1012) (fun y1015 T1014 =>
  if (q_i T1012 2438) < 0 ∨ 1600 ≤ (q_i T1012 2438).toNatClampNeg then none else
  q_lt (q_sa T1014 2437 ((upd (q_a T1014 2437) ((q_i T1012 2438).toNatClampNeg) y1015))) (fun T1016 =>
  q_lt (q_si T1016 2438 (((q_i T1016 2438) + 1))) (fun T1017 =>
  some T1017))))))))))
theorem b_X12_call_b32 {g : q_G} {S0 : kp_S} {Uf : q_V → Option q_V} {U : Nat → kp_S → (kp_S → Prop) → Prop} {Nf : q_V → Option q_V} {N : Nat → kp_S → (kp_S → Prop) → Prop} {x1 : Int32} {xn2 : Int32} {Sn : kp_S} {post : kp_S → Prop} {v : q_V} (R : q_Gd 2 g S0 Sn) (hU : ∀ (S : kp_S) (v : q_V) (post : kp_S → Prop), q_Gd 2 g S0 S → Uf (q_w g S) = some v → (∀ S, q_Gd 2 g S0 S → v = q_w g S → post S) → U (g 0 12 0) S post) (hN : ∀ (S : kp_S) (v : q_V) (post : kp_S → Prop), q_Gd 2 g S0 S → Nf (q_w g S) = some v → (∀ S, q_Gd 2 g S0 S → v = q_w g S → post S) → N (g 0 12 0) S post) (h : fX12_call_b32 Uf Nf x1 xn2 (q_w g Sn) = some v) (kk : ∀ S, q_Gd 2 g S0 S → v = q_w g S → post S) : wX12_call_b32 U N (g 0 12 0) x1 xn2 Sn post := by
  unfold wX12_call_b32; unfold fX12_call_b32 at h
  obtain ⟨v1, h1, h⟩ := q_bvi h
  refine b_X12_takeSign R h1 (fun T1001 R q => ?_)
  subst q
  intro T1002 q
  obtain ⟨R, q⟩ := q_wI R q rfl rfl
  replace h := q_ltw h q
  obtain ⟨y1004, v1, h1, h⟩ := q_bdi h
  refine b_X12_fine R h1 (fun T1003 R q => ?_)
  subst q
  refine ⟨fun c => ?_, fun c => ?_⟩
  · replace h := q_ifn h c
    intro T1005 q
    obtain ⟨R, q⟩ := q_wI R q rfl rfl
    replace h := q_ltw h q
    refine ⟨_, q_p2434 R, ?_⟩
    refine ⟨_, q_p2406 R, ?_⟩
    rw [q_l2406 R]
    obtain ⟨hi, h⟩ := q_in h
    refine ⟨hi, ?_⟩
    rw [q_l2434 R]
    obtain ⟨hi, h⟩ := q_in h
    refine ⟨hi, ?_⟩
    intro T1008 q
    obtain ⟨R, q⟩ := q_wB R q rfl
    replace h := q_ltw h q
    refine ⟨_, q_p2435 R, ?_⟩
    rw [q_l2435 R]
    obtain ⟨hi, h⟩ := q_in h
    refine ⟨hi, ?_⟩
    intro T1010 q
    obtain ⟨R, q⟩ := q_wA R q rfl
    replace h := q_ltw h q
    refine ⟨_, q_p2436 R, ?_⟩
    rw [q_l2436 R]
    obtain ⟨hi, h⟩ := q_in h
    refine ⟨hi, ?_⟩
    intro T1012 q
    obtain ⟨R, q⟩ := q_wA R q rfl
    replace h := q_ltw h q
    refine ⟨_, q_p2437 R, ?_⟩
    obtain ⟨y1015, v1, h1, h⟩ := q_bdi h
    refine b_X12_emit R h1 (fun T1014 R q => ?_)
    subst q
    rw [q_l2437 R]
    obtain ⟨hi, h⟩ := q_in h
    refine ⟨hi, ?_⟩
    intro T1016 q
    obtain ⟨R, q⟩ := q_wA R q rfl
    replace h := q_ltw h q
    intro T1017 q
    obtain ⟨R, q⟩ := q_wI R q rfl rfl
    replace h := q_ltw h q
    exact q_finv h kk R
  · replace h := q_ifp h c
    exact q_finv h kk R
def fX12_call_L15 (U : q_V → Option q_V) (N : q_V → Option q_V) (x1 : Int32) : Nat → Int32 → q_V → Option q_V
  | 0, _, _ => none
  | n + 1, xn2, Sn =>
  q_bv (fX12_expression U N Sn) (fun T2001 =>
  q_lt (xn2 + 1 : Int32) (fun y2002 =>
  q_bd (fX12_skip 144 T2001) (fun y2004 T2003 =>
  if y2004 = 0 then
  fX12_call_b32 U N x1 y2002 T2003
  else
  fX12_call_L15 U N x1 n y2002 T2003)))
theorem b_X12_call_L15 {g : q_G} {S0 : kp_S} {Uf : q_V → Option q_V} {U : Nat → kp_S → (kp_S → Prop) → Prop} {Nf : q_V → Option q_V} {N : Nat → kp_S → (kp_S → Prop) → Prop} {x1 : Int32} {post : kp_S → Prop} {v : q_V} (hU : ∀ (S : kp_S) (v : q_V) (post : kp_S → Prop), q_Gd 2 g S0 S → Uf (q_w g S) = some v → (∀ S, q_Gd 2 g S0 S → v = q_w g S → post S) → U (g 0 12 0) S post) (hN : ∀ (S : kp_S) (v : q_V) (post : kp_S → Prop), q_Gd 2 g S0 S → Nf (q_w g S) = some v → (∀ S, q_Gd 2 g S0 S → v = q_w g S → post S) → N (g 0 12 0) S post) (kk : ∀ S, q_Gd 2 g S0 S → v = q_w g S → post S) : ∀ (n : Nat) (xn2 : Int32) (Sn : kp_S), q_Gd 2 g S0 Sn → fX12_call_L15 Uf Nf x1 n xn2 (q_w g Sn) = some v → wX12_call_L15 U N (g 0 12 0) x1 post n xn2 Sn := by
  intro n
  induction n with
  | zero => intro xn2 Sn _ h; cases h
  | succ n ih =>
    intro xn2 Sn R h
    unfold wX12_call_L15; unfold fX12_call_L15 at h
    obtain ⟨v1, h1, h⟩ := q_bvi h
    refine b_X12_expression R hU hN h1 (fun T2001 R q => ?_)
    subst q
    intro y2002 q
    replace h := q_ltw h q
    obtain ⟨y2004, v1, h1, h⟩ := q_bdi h
    refine b_X12_skip R h1 (fun T2003 R q => ?_)
    subst q
    refine ⟨fun c => ?_, fun c => ?_⟩
    · replace h := q_ifn h c
      exact ih _ _ R h
    · replace h := q_ifp h c
      exact b_X12_call_b32 R hU hN h kk
def fX12_call (U : q_V → Option q_V) (N : q_V → Option q_V) (x1 : Int32) (S : q_V) : Option q_V :=
  q_bv (fX12_nest S) (fun T1 =>
  q_bd (fX12_isSign 41 T1) (fun y3 T2 =>
  if y3 = 0 then
  fX12_call_L15 U N x1 q_N 0 T2
  else
  fX12_call_b32 U N x1 0 T2))
theorem b_X12_call {g : q_G} {S0 : kp_S} {Uf : q_V → Option q_V} {U : Nat → kp_S → (kp_S → Prop) → Prop} {Nf : q_V → Option q_V} {N : Nat → kp_S → (kp_S → Prop) → Prop} {x1 : Int32} {S : kp_S} {post : kp_S → Prop} {v : q_V} (R : q_Gd 2 g S0 S) (hU : ∀ (S : kp_S) (v : q_V) (post : kp_S → Prop), q_Gd 2 g S0 S → Uf (q_w g S) = some v → (∀ S, q_Gd 2 g S0 S → v = q_w g S → post S) → U (g 0 12 0) S post) (hN : ∀ (S : kp_S) (v : q_V) (post : kp_S → Prop), q_Gd 2 g S0 S → Nf (q_w g S) = some v → (∀ S, q_Gd 2 g S0 S → v = q_w g S → post S) → N (g 0 12 0) S post) (h : fX12_call Uf Nf x1 (q_w g S) = some v) (kk : ∀ S, q_Gd 2 g S0 S → v = q_w g S → post S) : wX12_call U N (g 0 12 0) x1 S post := by
  unfold wX12_call; unfold fX12_call at h
  obtain ⟨v1, h1, h⟩ := q_bvi h
  refine b_X12_nest R h1 (fun T1 R q => ?_)
  subst q
  obtain ⟨y3, v1, h1, h⟩ := q_bdi h
  refine b_X12_isSign R h1 (fun T2 R q => ?_)
  subst q
  refine ⟨fun c => ?_, fun c => ?_⟩
  · replace h := q_ifn h c
    exact b_X12_call_b32 R hU hN h kk
  · replace h := q_ifp h c
    exact ⟨q_N, b_X12_call_L15 hU hN kk q_N _ _ R h⟩
def fX12_question_b47 (U : q_V → Option q_V) (N : q_V → Option q_V) (x1 : Int32) (x2 : Int32) (Sn : q_V) : Option q_V :=
  q_bv (fX12_takeSign 41 Sn) (fun T1001 =>
  q_lt (q_si T1001 2411 (((q_i T1001 2411) - 1))) (fun T1002 =>
  q_lt (q_si T1002 2425 1) (fun T1003 =>
  q_bd (fX12_emit x2 0 0 T1003) (fun y1005 T1004 =>
  some T1004))))
theorem b_X12_question_b47 {g : q_G} {S0 : kp_S} {Uf : q_V → Option q_V} {U : Nat → kp_S → (kp_S → Prop) → Prop} {Nf : q_V → Option q_V} {N : Nat → kp_S → (kp_S → Prop) → Prop} {x1 : Int32} {x2 : Int32} {Sn : kp_S} {post : kp_S → Prop} {v : q_V} (R : q_Gd 2 g S0 Sn) (hU : ∀ (S : kp_S) (v : q_V) (post : kp_S → Prop), q_Gd 2 g S0 S → Uf (q_w g S) = some v → (∀ S, q_Gd 2 g S0 S → v = q_w g S → post S) → U (g 0 12 0) S post) (hN : ∀ (S : kp_S) (v : q_V) (post : kp_S → Prop), q_Gd 2 g S0 S → Nf (q_w g S) = some v → (∀ S, q_Gd 2 g S0 S → v = q_w g S → post S) → N (g 0 12 0) S post) (h : fX12_question_b47 Uf Nf x1 x2 (q_w g Sn) = some v) (kk : ∀ S, q_Gd 2 g S0 S → v = q_w g S → post S) : wX12_question_b47 U N (g 0 12 0) x1 x2 Sn post := by
  unfold wX12_question_b47; unfold fX12_question_b47 at h
  obtain ⟨v1, h1, h⟩ := q_bvi h
  refine b_X12_takeSign R h1 (fun T1001 R q => ?_)
  subst q
  intro T1002 q
  obtain ⟨R, q⟩ := q_wI R q rfl rfl
  replace h := q_ltw h q
  intro T1003 q
  obtain ⟨R, q⟩ := q_wI R q rfl rfl
  replace h := q_ltw h q
  obtain ⟨y1005, v1, h1, h⟩ := q_bdi h
  refine b_X12_emit R h1 (fun T1004 R q => ?_)
  subst q
  exact q_finv h kk R
def fX12_question (U : q_V → Option q_V) (N : q_V → Option q_V) (x1 : Int32) (x2 : Int32) (S : q_V) : Option q_V :=
  q_lt (q_si S 2410 (((q_i S 2410) + 1))) (fun T1 =>
  q_bd (fX12_isSign 40 T1) (fun y3 T2 =>
  if y3 = 0 then
  q_bv (fX12_wrong T2) (fun T9 =>
  some T9)
  else
  q_bv (fX12_nest T2) (fun T4 =>
  q_bv (fX12_expression U N T4) (fun T5 =>
  if x1 = 2 then
  q_bv (fX12_takeSign 44 T5) (fun T6 =>
  q_bv (fX12_expression U N T6) (fun T7 =>
  fX12_question_b47 U N x1 x2 T7))
  else
  fX12_question_b47 U N x1 x2 T5))))
theorem b_X12_question {g : q_G} {S0 : kp_S} {Uf : q_V → Option q_V} {U : Nat → kp_S → (kp_S → Prop) → Prop} {Nf : q_V → Option q_V} {N : Nat → kp_S → (kp_S → Prop) → Prop} {x1 : Int32} {x2 : Int32} {S : kp_S} {post : kp_S → Prop} {v : q_V} (R : q_Gd 2 g S0 S) (hU : ∀ (S : kp_S) (v : q_V) (post : kp_S → Prop), q_Gd 2 g S0 S → Uf (q_w g S) = some v → (∀ S, q_Gd 2 g S0 S → v = q_w g S → post S) → U (g 0 12 0) S post) (hN : ∀ (S : kp_S) (v : q_V) (post : kp_S → Prop), q_Gd 2 g S0 S → Nf (q_w g S) = some v → (∀ S, q_Gd 2 g S0 S → v = q_w g S → post S) → N (g 0 12 0) S post) (h : fX12_question Uf Nf x1 x2 (q_w g S) = some v) (kk : ∀ S, q_Gd 2 g S0 S → v = q_w g S → post S) : wX12_question U N (g 0 12 0) x1 x2 S post := by
  unfold wX12_question; unfold fX12_question at h
  intro T1 q
  obtain ⟨R, q⟩ := q_wI R q rfl rfl
  replace h := q_ltw h q
  obtain ⟨y3, v1, h1, h⟩ := q_bdi h
  refine b_X12_isSign R h1 (fun T2 R q => ?_)
  subst q
  refine ⟨fun c => ?_, fun c => ?_⟩
  · replace h := q_ifn h c
    obtain ⟨v1, h1, h⟩ := q_bvi h
    refine b_X12_nest R h1 (fun T4 R q => ?_)
    subst q
    obtain ⟨v1, h1, h⟩ := q_bvi h
    refine b_X12_expression R hU hN h1 (fun T5 R q => ?_)
    subst q
    refine ⟨fun c => ?_, fun c => ?_⟩
    · replace h := q_ifn h c
      exact b_X12_question_b47 R hU hN h kk
    · replace h := q_ifp h c
      obtain ⟨v1, h1, h⟩ := q_bvi h
      refine b_X12_takeSign R h1 (fun T6 R q => ?_)
      subst q
      obtain ⟨v1, h1, h⟩ := q_bvi h
      refine b_X12_expression R hU hN h1 (fun T7 R q => ?_)
      subst q
      exact b_X12_question_b47 R hU hN h kk
  · replace h := q_ifp h c
    obtain ⟨v1, h1, h⟩ := q_bvi h
    refine b_X12_wrong R h1 (fun T9 R q => ?_)
    subst q
    exact q_finv h kk R
def fX12_product_b108 (U : q_V → Option q_V) (N : q_V → Option q_V) (xn1 : Int32) (xt0 : Int32) (K4 : q_V → Option q_V) (Sn : q_V) : Option q_V :=
  if ¬ (xt0 = 0 ∨ xt0 = 1) then none else
  q_lt (q_si Sn 2425 xt0) (fun T1001 =>
  q_bd (fX12_emit xn1 0 0 T1001) (fun y1003 T1002 =>
  K4 T1002))
theorem b_X12_product_b108 {g : q_G} {S0 : kp_S} {Uf : q_V → Option q_V} {U : Nat → kp_S → (kp_S → Prop) → Prop} {Nf : q_V → Option q_V} {N : Nat → kp_S → (kp_S → Prop) → Prop} {xn1 : Int32} {xt0 : Int32} {K4f : q_V → Option q_V} {K4 : kp_S → Prop} {Sn : kp_S} {post : kp_S → Prop} {v : q_V} (R : q_Gd 2 g S0 Sn) (hU : ∀ (S : kp_S) (v : q_V) (post : kp_S → Prop), q_Gd 2 g S0 S → Uf (q_w g S) = some v → (∀ S, q_Gd 2 g S0 S → v = q_w g S → post S) → U (g 0 12 0) S post) (hN : ∀ (S : kp_S) (v : q_V) (post : kp_S → Prop), q_Gd 2 g S0 S → Nf (q_w g S) = some v → (∀ S, q_Gd 2 g S0 S → v = q_w g S → post S) → N (g 0 12 0) S post) (hK4 : ∀ (S : kp_S), q_Gd 2 g S0 S → K4f  (q_w g S) = some v → K4  S) (h : fX12_product_b108 Uf Nf xn1 xt0 K4f (q_w g Sn) = some v) (kk : ∀ S, q_Gd 2 g S0 S → v = q_w g S → post S) : wX12_product_b108 U N (g 0 12 0) xn1 xt0 (g 0 12 0) K4 Sn post := by
  unfold wX12_product_b108; unfold fX12_product_b108 at h
  obtain ⟨hi, h⟩ := q_in h
  refine ⟨Classical.not_not.mp hi, ?_⟩
  intro T1001 q
  obtain ⟨R, q⟩ := q_wI R q rfl rfl
  replace h := q_ltw h q
  obtain ⟨y1003, v1, h1, h⟩ := q_bdi h
  refine b_X12_emit R h1 (fun T1002 R q => ?_)
  subst q
  exact hK4 _ R h
def fX12_product_b107 (U : q_V → Option q_V) (N : q_V → Option q_V) (xn1 : Int32) (K4 : q_V → Option q_V) (Sn : q_V) : Option q_V :=
  fX12_product_b108 U N xn1 0 K4 Sn
theorem b_X12_product_b107 {g : q_G} {S0 : kp_S} {Uf : q_V → Option q_V} {U : Nat → kp_S → (kp_S → Prop) → Prop} {Nf : q_V → Option q_V} {N : Nat → kp_S → (kp_S → Prop) → Prop} {xn1 : Int32} {K4f : q_V → Option q_V} {K4 : kp_S → Prop} {Sn : kp_S} {post : kp_S → Prop} {v : q_V} (R : q_Gd 2 g S0 Sn) (hU : ∀ (S : kp_S) (v : q_V) (post : kp_S → Prop), q_Gd 2 g S0 S → Uf (q_w g S) = some v → (∀ S, q_Gd 2 g S0 S → v = q_w g S → post S) → U (g 0 12 0) S post) (hN : ∀ (S : kp_S) (v : q_V) (post : kp_S → Prop), q_Gd 2 g S0 S → Nf (q_w g S) = some v → (∀ S, q_Gd 2 g S0 S → v = q_w g S → post S) → N (g 0 12 0) S post) (hK4 : ∀ (S : kp_S), q_Gd 2 g S0 S → K4f  (q_w g S) = some v → K4  S) (h : fX12_product_b107 Uf Nf xn1 K4f (q_w g Sn) = some v) (kk : ∀ S, q_Gd 2 g S0 S → v = q_w g S → post S) : wX12_product_b107 U N (g 0 12 0) xn1 (g 0 12 0) K4 Sn post := by
  unfold wX12_product_b107; unfold fX12_product_b107 at h
  exact b_X12_product_b108 R hU hN hK4 h kk
def fX12_product_b103 (U : q_V → Option q_V) (N : q_V → Option q_V) (xn1 : Int32) (K4 : q_V → Option q_V) (Sn : q_V) : Option q_V :=
  fX12_product_b108 U N xn1 1 K4 Sn
theorem b_X12_product_b103 {g : q_G} {S0 : kp_S} {Uf : q_V → Option q_V} {U : Nat → kp_S → (kp_S → Prop) → Prop} {Nf : q_V → Option q_V} {N : Nat → kp_S → (kp_S → Prop) → Prop} {xn1 : Int32} {K4f : q_V → Option q_V} {K4 : kp_S → Prop} {Sn : kp_S} {post : kp_S → Prop} {v : q_V} (R : q_Gd 2 g S0 Sn) (hU : ∀ (S : kp_S) (v : q_V) (post : kp_S → Prop), q_Gd 2 g S0 S → Uf (q_w g S) = some v → (∀ S, q_Gd 2 g S0 S → v = q_w g S → post S) → U (g 0 12 0) S post) (hN : ∀ (S : kp_S) (v : q_V) (post : kp_S → Prop), q_Gd 2 g S0 S → Nf (q_w g S) = some v → (∀ S, q_Gd 2 g S0 S → v = q_w g S → post S) → N (g 0 12 0) S post) (hK4 : ∀ (S : kp_S), q_Gd 2 g S0 S → K4f  (q_w g S) = some v → K4  S) (h : fX12_product_b103 Uf Nf xn1 K4f (q_w g Sn) = some v) (kk : ∀ S, q_Gd 2 g S0 S → v = q_w g S → post S) : wX12_product_b103 U N (g 0 12 0) xn1 (g 0 12 0) K4 Sn post := by
  unfold wX12_product_b103; unfold fX12_product_b103 at h
  exact b_X12_product_b108 R hU hN hK4 h kk
def fX12_product_b61 (U : q_V → Option q_V) (N : q_V → Option q_V) (xt0 : Int32) (K4 : q_V → Option q_V) (Sn : q_V) : Option q_V :=
  q_lt (q_si Sn 2410 (((q_i Sn 2410) + 1))) (fun T4001 =>
  q_lt ((q_i T4001 2410) : Int32) (fun y4002 =>
  q_bv (U T4001) (fun T4003 =>
  if (q_i T4003 2425) = 0 then
  if xt0 = 9 then
  fX12_product_b107 U N xt0 K4 T4003
  else
  q_bd (fX12_isPlain y4002 T4003) (fun y4005 T4004 =>
  if y4005 = 0 then
  fX12_product_b103 U N xt0 K4 T4004
  else
  fX12_product_b107 U N xt0 K4 T4004)
  else
  fX12_product_b103 U N xt0 K4 T4003)))
theorem b_X12_product_b61 {g : q_G} {S0 : kp_S} {Uf : q_V → Option q_V} {U : Nat → kp_S → (kp_S → Prop) → Prop} {Nf : q_V → Option q_V} {N : Nat → kp_S → (kp_S → Prop) → Prop} {xt0 : Int32} {K4f : q_V → Option q_V} {K4 : kp_S → Prop} {Sn : kp_S} {post : kp_S → Prop} {v : q_V} (R : q_Gd 2 g S0 Sn) (hU : ∀ (S : kp_S) (v : q_V) (post : kp_S → Prop), q_Gd 2 g S0 S → Uf (q_w g S) = some v → (∀ S, q_Gd 2 g S0 S → v = q_w g S → post S) → U (g 0 12 0) S post) (hN : ∀ (S : kp_S) (v : q_V) (post : kp_S → Prop), q_Gd 2 g S0 S → Nf (q_w g S) = some v → (∀ S, q_Gd 2 g S0 S → v = q_w g S → post S) → N (g 0 12 0) S post) (hK4 : ∀ (S : kp_S), q_Gd 2 g S0 S → K4f  (q_w g S) = some v → K4  S) (h : fX12_product_b61 Uf Nf xt0 K4f (q_w g Sn) = some v) (kk : ∀ S, q_Gd 2 g S0 S → v = q_w g S → post S) : wX12_product_b61 U N (g 0 12 0) xt0 K4 Sn post := by
  unfold wX12_product_b61; unfold fX12_product_b61 at h
  intro T4001 q
  obtain ⟨R, q⟩ := q_wI R q rfl rfl
  replace h := q_ltw h q
  intro y4002 q
  replace h := q_ltw h q
  obtain ⟨v1, h1, h⟩ := q_bvi h
  refine hU _ _ _ R h1 (fun T4003 R q => ?_)
  subst q
  refine ⟨fun c => ?_, fun c => ?_⟩
  · replace h := q_ifn h c
    exact b_X12_product_b103 R hU hN hK4 h kk
  · replace h := q_ifp h c
    refine ⟨fun c => ?_, fun c => ?_⟩
    · replace h := q_ifp h c
      exact b_X12_product_b107 R hU hN hK4 h kk
    · replace h := q_ifn h c
      obtain ⟨y4005, v1, h1, h⟩ := q_bdi h
      refine b_X12_isPlain R h1 (fun T4004 R q => ?_)
      subst q
      refine ⟨fun c => ?_, fun c => ?_⟩
      · replace h := q_ifn h c
        exact b_X12_product_b107 R hU hN hK4 h kk
      · replace h := q_ifp h c
        exact b_X12_product_b103 R hU hN hK4 h kk
def fX12_product_b31 (U : q_V → Option q_V) (N : q_V → Option q_V) (K4 : q_V → Option q_V) (Sn : q_V) : Option q_V :=
  q_bd (fX12_isSign 42 Sn) (fun y5002 T5001 =>
  if y5002 = 0 then
  q_bd (fX12_isSign 47 T5001) (fun y5004 T5003 =>
  if y5004 = 0 then
  fX12_product_b61 U N 11 K4 T5003
  else
  fX12_product_b61 U N 10 K4 T5003)
  else
  fX12_product_b61 U N 9 K4 T5001)
theorem b_X12_product_b31 {g : q_G} {S0 : kp_S} {Uf : q_V → Option q_V} {U : Nat → kp_S → (kp_S → Prop) → Prop} {Nf : q_V → Option q_V} {N : Nat → kp_S → (kp_S → Prop) → Prop} {K4f : q_V → Option q_V} {K4 : kp_S → Prop} {Sn : kp_S} {post : kp_S → Prop} {v : q_V} (R : q_Gd 2 g S0 Sn) (hU : ∀ (S : kp_S) (v : q_V) (post : kp_S → Prop), q_Gd 2 g S0 S → Uf (q_w g S) = some v → (∀ S, q_Gd 2 g S0 S → v = q_w g S → post S) → U (g 0 12 0) S post) (hN : ∀ (S : kp_S) (v : q_V) (post : kp_S → Prop), q_Gd 2 g S0 S → Nf (q_w g S) = some v → (∀ S, q_Gd 2 g S0 S → v = q_w g S → post S) → N (g 0 12 0) S post) (hK4 : ∀ (S : kp_S), q_Gd 2 g S0 S → K4f  (q_w g S) = some v → K4  S) (h : fX12_product_b31 Uf Nf K4f (q_w g Sn) = some v) (kk : ∀ S, q_Gd 2 g S0 S → v = q_w g S → post S) : wX12_product_b31 U N (g 0 12 0) K4 Sn post := by
  unfold wX12_product_b31; unfold fX12_product_b31 at h
  obtain ⟨y5002, v1, h1, h⟩ := q_bdi h
  refine b_X12_isSign R h1 (fun T5001 R q => ?_)
  subst q
  refine ⟨fun c => ?_, fun c => ?_⟩
  · replace h := q_ifp h c
    obtain ⟨y5004, v1, h1, h⟩ := q_bdi h
    refine b_X12_isSign R h1 (fun T5003 R q => ?_)
    subst q
    refine ⟨fun c => ?_, fun c => ?_⟩
    · replace h := q_ifp h c
      exact b_X12_product_b61 R hU hN hK4 h kk
    · replace h := q_ifn h c
      exact b_X12_product_b61 R hU hN hK4 h kk
  · replace h := q_ifn h c
    exact b_X12_product_b61 R hU hN hK4 h kk
def fX12_product_L4 (U : q_V → Option q_V) (N : q_V → Option q_V) : Nat → q_V → Option q_V
  | 0, _ => none
  | n + 1, Sn =>
  q_bd (fX12_isSign 42 Sn) (fun y6002 T6001 =>
  if y6002 = 0 then
  q_bd (fX12_isSign 47 T6001) (fun y6004 T6003 =>
  if y6004 = 0 then
  q_bd (fX12_isSign 37 T6003) (fun y6006 T6005 =>
  if y6006 = 0 then
  some T6005
  else
  fX12_product_b31 U N (fun S_ => fX12_product_L4 U N n S_) T6005)
  else
  fX12_product_b31 U N (fun S_ => fX12_product_L4 U N n S_) T6003)
  else
  fX12_product_b31 U N (fun S_ => fX12_product_L4 U N n S_) T6001)
theorem b_X12_product_L4 {g : q_G} {S0 : kp_S} {Uf : q_V → Option q_V} {U : Nat → kp_S → (kp_S → Prop) → Prop} {Nf : q_V → Option q_V} {N : Nat → kp_S → (kp_S → Prop) → Prop} {post : kp_S → Prop} {v : q_V} (hU : ∀ (S : kp_S) (v : q_V) (post : kp_S → Prop), q_Gd 2 g S0 S → Uf (q_w g S) = some v → (∀ S, q_Gd 2 g S0 S → v = q_w g S → post S) → U (g 0 12 0) S post) (hN : ∀ (S : kp_S) (v : q_V) (post : kp_S → Prop), q_Gd 2 g S0 S → Nf (q_w g S) = some v → (∀ S, q_Gd 2 g S0 S → v = q_w g S → post S) → N (g 0 12 0) S post) (kk : ∀ S, q_Gd 2 g S0 S → v = q_w g S → post S) : ∀ (n : Nat) (Sn : kp_S), q_Gd 2 g S0 Sn → fX12_product_L4 Uf Nf n  (q_w g Sn) = some v → wX12_product_L4 U N (g 0 12 0) post n  Sn := by
  intro n
  induction n with
  | zero => intro Sn _ h; cases h
  | succ n ih =>
    intro Sn R h
    unfold wX12_product_L4; unfold fX12_product_L4 at h
    obtain ⟨y6002, v1, h1, h⟩ := q_bdi h
    refine b_X12_isSign R h1 (fun T6001 R q => ?_)
    subst q
    refine ⟨fun c => ?_, fun c => ?_⟩
    · replace h := q_ifn h c
      exact b_X12_product_b31 R hU hN (fun S_ R h => ih S_ R h) h kk
    · replace h := q_ifp h c
      obtain ⟨y6004, v1, h1, h⟩ := q_bdi h
      refine b_X12_isSign R h1 (fun T6003 R q => ?_)
      subst q
      refine ⟨fun c => ?_, fun c => ?_⟩
      · replace h := q_ifn h c
        exact b_X12_product_b31 R hU hN (fun S_ R h => ih S_ R h) h kk
      · replace h := q_ifp h c
        obtain ⟨y6006, v1, h1, h⟩ := q_bdi h
        refine b_X12_isSign R h1 (fun T6005 R q => ?_)
        subst q
        refine ⟨fun c => ?_, fun c => ?_⟩
        · replace h := q_ifp h c
          exact q_finv h kk R
        · replace h := q_ifn h c
          exact b_X12_product_b31 R hU hN (fun S_ R h => ih S_ R h) h kk
def fX12_product (U : q_V → Option q_V) (N : q_V → Option q_V) (S : q_V) : Option q_V :=
  q_bv (U S) (fun T1 =>
  fX12_product_L4 U N q_N T1)
theorem b_X12_product {g : q_G} {S0 : kp_S} {Uf : q_V → Option q_V} {U : Nat → kp_S → (kp_S → Prop) → Prop} {Nf : q_V → Option q_V} {N : Nat → kp_S → (kp_S → Prop) → Prop} {S : kp_S} {post : kp_S → Prop} {v : q_V} (R : q_Gd 2 g S0 S) (hU : ∀ (S : kp_S) (v : q_V) (post : kp_S → Prop), q_Gd 2 g S0 S → Uf (q_w g S) = some v → (∀ S, q_Gd 2 g S0 S → v = q_w g S → post S) → U (g 0 12 0) S post) (hN : ∀ (S : kp_S) (v : q_V) (post : kp_S → Prop), q_Gd 2 g S0 S → Nf (q_w g S) = some v → (∀ S, q_Gd 2 g S0 S → v = q_w g S → post S) → N (g 0 12 0) S post) (h : fX12_product Uf Nf (q_w g S) = some v) (kk : ∀ S, q_Gd 2 g S0 S → v = q_w g S → post S) : wX12_product U N (g 0 12 0) S post := by
  unfold wX12_product; unfold fX12_product at h
  obtain ⟨v1, h1, h⟩ := q_bvi h
  refine hU _ _ _ R h1 (fun T1 R q => ?_)
  subst q
  exact ⟨q_N, b_X12_product_L4 hU hN kk q_N _ R h⟩
def fX12_sum_b38 (U : q_V → Option q_V) (N : q_V → Option q_V) (xt0 : Int32) (K4 : q_V → Option q_V) (Sn : q_V) : Option q_V :=
  q_lt (q_si Sn 2410 (((q_i Sn 2410) + 1))) (fun T1001 =>
  q_bv (fX12_product U N T1001) (fun T1002 =>
  q_bd (fX12_emit xt0 0 0 T1002) (fun y1004 T1003 =>
  K4 T1003)))
theorem b_X12_sum_b38 {g : q_G} {S0 : kp_S} {Uf : q_V → Option q_V} {U : Nat → kp_S → (kp_S → Prop) → Prop} {Nf : q_V → Option q_V} {N : Nat → kp_S → (kp_S → Prop) → Prop} {xt0 : Int32} {K4f : q_V → Option q_V} {K4 : kp_S → Prop} {Sn : kp_S} {post : kp_S → Prop} {v : q_V} (R : q_Gd 2 g S0 Sn) (hU : ∀ (S : kp_S) (v : q_V) (post : kp_S → Prop), q_Gd 2 g S0 S → Uf (q_w g S) = some v → (∀ S, q_Gd 2 g S0 S → v = q_w g S → post S) → U (g 0 12 0) S post) (hN : ∀ (S : kp_S) (v : q_V) (post : kp_S → Prop), q_Gd 2 g S0 S → Nf (q_w g S) = some v → (∀ S, q_Gd 2 g S0 S → v = q_w g S → post S) → N (g 0 12 0) S post) (hK4 : ∀ (S : kp_S), q_Gd 2 g S0 S → K4f  (q_w g S) = some v → K4  S) (h : fX12_sum_b38 Uf Nf xt0 K4f (q_w g Sn) = some v) (kk : ∀ S, q_Gd 2 g S0 S → v = q_w g S → post S) : wX12_sum_b38 U N (g 0 12 0) xt0 K4 Sn post := by
  unfold wX12_sum_b38; unfold fX12_sum_b38 at h
  intro T1001 q
  obtain ⟨R, q⟩ := q_wI R q rfl rfl
  replace h := q_ltw h q
  obtain ⟨v1, h1, h⟩ := q_bvi h
  refine b_X12_product R hU hN h1 (fun T1002 R q => ?_)
  subst q
  obtain ⟨y1004, v1, h1, h⟩ := q_bdi h
  refine b_X12_emit R h1 (fun T1003 R q => ?_)
  subst q
  exact hK4 _ R h
def fX12_sum_b22 (U : q_V → Option q_V) (N : q_V → Option q_V) (K4 : q_V → Option q_V) (Sn : q_V) : Option q_V :=
  q_bd (fX12_isSign 43 Sn) (fun y2002 T2001 =>
  if y2002 = 0 then
  fX12_sum_b38 U N 8 K4 T2001
  else
  fX12_sum_b38 U N 7 K4 T2001)
theorem b_X12_sum_b22 {g : q_G} {S0 : kp_S} {Uf : q_V → Option q_V} {U : Nat → kp_S → (kp_S → Prop) → Prop} {Nf : q_V → Option q_V} {N : Nat → kp_S → (kp_S → Prop) → Prop} {K4f : q_V → Option q_V} {K4 : kp_S → Prop} {Sn : kp_S} {post : kp_S → Prop} {v : q_V} (R : q_Gd 2 g S0 Sn) (hU : ∀ (S : kp_S) (v : q_V) (post : kp_S → Prop), q_Gd 2 g S0 S → Uf (q_w g S) = some v → (∀ S, q_Gd 2 g S0 S → v = q_w g S → post S) → U (g 0 12 0) S post) (hN : ∀ (S : kp_S) (v : q_V) (post : kp_S → Prop), q_Gd 2 g S0 S → Nf (q_w g S) = some v → (∀ S, q_Gd 2 g S0 S → v = q_w g S → post S) → N (g 0 12 0) S post) (hK4 : ∀ (S : kp_S), q_Gd 2 g S0 S → K4f  (q_w g S) = some v → K4  S) (h : fX12_sum_b22 Uf Nf K4f (q_w g Sn) = some v) (kk : ∀ S, q_Gd 2 g S0 S → v = q_w g S → post S) : wX12_sum_b22 U N (g 0 12 0) K4 Sn post := by
  unfold wX12_sum_b22; unfold fX12_sum_b22 at h
  obtain ⟨y2002, v1, h1, h⟩ := q_bdi h
  refine b_X12_isSign R h1 (fun T2001 R q => ?_)
  subst q
  refine ⟨fun c => ?_, fun c => ?_⟩
  · replace h := q_ifp h c
    exact b_X12_sum_b38 R hU hN hK4 h kk
  · replace h := q_ifn h c
    exact b_X12_sum_b38 R hU hN hK4 h kk
def fX12_sum_L4 (U : q_V → Option q_V) (N : q_V → Option q_V) : Nat → q_V → Option q_V
  | 0, _ => none
  | n + 1, Sn =>
  q_bd (fX12_isSign 43 Sn) (fun y3002 T3001 =>
  if y3002 = 0 then
  q_bd (fX12_isSign 45 T3001) (fun y3004 T3003 =>
  if y3004 = 0 then
  some T3003
  else
  fX12_sum_b22 U N (fun S_ => fX12_sum_L4 U N n S_) T3003)
  else
  fX12_sum_b22 U N (fun S_ => fX12_sum_L4 U N n S_) T3001)
theorem b_X12_sum_L4 {g : q_G} {S0 : kp_S} {Uf : q_V → Option q_V} {U : Nat → kp_S → (kp_S → Prop) → Prop} {Nf : q_V → Option q_V} {N : Nat → kp_S → (kp_S → Prop) → Prop} {post : kp_S → Prop} {v : q_V} (hU : ∀ (S : kp_S) (v : q_V) (post : kp_S → Prop), q_Gd 2 g S0 S → Uf (q_w g S) = some v → (∀ S, q_Gd 2 g S0 S → v = q_w g S → post S) → U (g 0 12 0) S post) (hN : ∀ (S : kp_S) (v : q_V) (post : kp_S → Prop), q_Gd 2 g S0 S → Nf (q_w g S) = some v → (∀ S, q_Gd 2 g S0 S → v = q_w g S → post S) → N (g 0 12 0) S post) (kk : ∀ S, q_Gd 2 g S0 S → v = q_w g S → post S) : ∀ (n : Nat) (Sn : kp_S), q_Gd 2 g S0 Sn → fX12_sum_L4 Uf Nf n  (q_w g Sn) = some v → wX12_sum_L4 U N (g 0 12 0) post n  Sn := by
  intro n
  induction n with
  | zero => intro Sn _ h; cases h
  | succ n ih =>
    intro Sn R h
    unfold wX12_sum_L4; unfold fX12_sum_L4 at h
    obtain ⟨y3002, v1, h1, h⟩ := q_bdi h
    refine b_X12_isSign R h1 (fun T3001 R q => ?_)
    subst q
    refine ⟨fun c => ?_, fun c => ?_⟩
    · replace h := q_ifn h c
      exact b_X12_sum_b22 R hU hN (fun S_ R h => ih S_ R h) h kk
    · replace h := q_ifp h c
      obtain ⟨y3004, v1, h1, h⟩ := q_bdi h
      refine b_X12_isSign R h1 (fun T3003 R q => ?_)
      subst q
      refine ⟨fun c => ?_, fun c => ?_⟩
      · replace h := q_ifp h c
        exact q_finv h kk R
      · replace h := q_ifn h c
        exact b_X12_sum_b22 R hU hN (fun S_ R h => ih S_ R h) h kk
def fX12_sum (U : q_V → Option q_V) (N : q_V → Option q_V) (S : q_V) : Option q_V :=
  q_bv (fX12_product U N S) (fun T1 =>
  fX12_sum_L4 U N q_N T1)
theorem b_X12_sum {g : q_G} {S0 : kp_S} {Uf : q_V → Option q_V} {U : Nat → kp_S → (kp_S → Prop) → Prop} {Nf : q_V → Option q_V} {N : Nat → kp_S → (kp_S → Prop) → Prop} {S : kp_S} {post : kp_S → Prop} {v : q_V} (R : q_Gd 2 g S0 S) (hU : ∀ (S : kp_S) (v : q_V) (post : kp_S → Prop), q_Gd 2 g S0 S → Uf (q_w g S) = some v → (∀ S, q_Gd 2 g S0 S → v = q_w g S → post S) → U (g 0 12 0) S post) (hN : ∀ (S : kp_S) (v : q_V) (post : kp_S → Prop), q_Gd 2 g S0 S → Nf (q_w g S) = some v → (∀ S, q_Gd 2 g S0 S → v = q_w g S → post S) → N (g 0 12 0) S post) (h : fX12_sum Uf Nf (q_w g S) = some v) (kk : ∀ S, q_Gd 2 g S0 S → v = q_w g S → post S) : wX12_sum U N (g 0 12 0) S post := by
  unfold wX12_sum; unfold fX12_sum at h
  obtain ⟨v1, h1, h⟩ := q_bvi h
  refine b_X12_product R hU hN h1 (fun T1 R q => ?_)
  subst q
  exact ⟨q_N, b_X12_sum_L4 hU hN kk q_N _ R h⟩
def fX12_test_b64 (U : q_V → Option q_V) (N : q_V → Option q_V) (xt0 : Int32) (Sn : q_V) : Option q_V :=
  if xt0 = (- 1) then
  some Sn
  else
  q_lt (q_si Sn 2410 (((q_i Sn 2410) + 1))) (fun T1001 =>
  q_bv (fX12_sum U N T1001) (fun T1002 =>
  q_bd (fX12_emit xt0 0 0 T1002) (fun y1004 T1003 =>
  some T1003)))
theorem b_X12_test_b64 {g : q_G} {S0 : kp_S} {Uf : q_V → Option q_V} {U : Nat → kp_S → (kp_S → Prop) → Prop} {Nf : q_V → Option q_V} {N : Nat → kp_S → (kp_S → Prop) → Prop} {xt0 : Int32} {Sn : kp_S} {post : kp_S → Prop} {v : q_V} (R : q_Gd 2 g S0 Sn) (hU : ∀ (S : kp_S) (v : q_V) (post : kp_S → Prop), q_Gd 2 g S0 S → Uf (q_w g S) = some v → (∀ S, q_Gd 2 g S0 S → v = q_w g S → post S) → U (g 0 12 0) S post) (hN : ∀ (S : kp_S) (v : q_V) (post : kp_S → Prop), q_Gd 2 g S0 S → Nf (q_w g S) = some v → (∀ S, q_Gd 2 g S0 S → v = q_w g S → post S) → N (g 0 12 0) S post) (h : fX12_test_b64 Uf Nf xt0 (q_w g Sn) = some v) (kk : ∀ S, q_Gd 2 g S0 S → v = q_w g S → post S) : wX12_test_b64 U N (g 0 12 0) xt0 Sn post := by
  unfold wX12_test_b64; unfold fX12_test_b64 at h
  refine ⟨fun c => ?_, fun c => ?_⟩
  · replace h := q_ifn h c
    intro T1001 q
    obtain ⟨R, q⟩ := q_wI R q rfl rfl
    replace h := q_ltw h q
    obtain ⟨v1, h1, h⟩ := q_bvi h
    refine b_X12_sum R hU hN h1 (fun T1002 R q => ?_)
    subst q
    obtain ⟨y1004, v1, h1, h⟩ := q_bdi h
    refine b_X12_emit R h1 (fun T1003 R q => ?_)
    subst q
    exact q_finv h kk R
  · replace h := q_ifp h c
    exact q_finv h kk R
def fX12_test (U : q_V → Option q_V) (N : q_V → Option q_V) (S : q_V) : Option q_V :=
  q_bv (fX12_sum U N S) (fun T1 =>
  q_bd (fX12_is 301 T1) (fun y3 T2 =>
  if y3 = 0 then
  q_bd (fX12_is 302 T2) (fun y5 T4 =>
  if y5 = 0 then
  q_bd (fX12_isSign 60 T4) (fun y7 T6 =>
  if y7 = 0 then
  q_bd (fX12_is 303 T6) (fun y9 T8 =>
  if y9 = 0 then
  fX12_test_b64 U N ((- 1)) T8
  else
  fX12_test_b64 U N 15 T8)
  else
  fX12_test_b64 U N 14 T6)
  else
  fX12_test_b64 U N 13 T4)
  else
  fX12_test_b64 U N 12 T2))
theorem b_X12_test {g : q_G} {S0 : kp_S} {Uf : q_V → Option q_V} {U : Nat → kp_S → (kp_S → Prop) → Prop} {Nf : q_V → Option q_V} {N : Nat → kp_S → (kp_S → Prop) → Prop} {S : kp_S} {post : kp_S → Prop} {v : q_V} (R : q_Gd 2 g S0 S) (hU : ∀ (S : kp_S) (v : q_V) (post : kp_S → Prop), q_Gd 2 g S0 S → Uf (q_w g S) = some v → (∀ S, q_Gd 2 g S0 S → v = q_w g S → post S) → U (g 0 12 0) S post) (hN : ∀ (S : kp_S) (v : q_V) (post : kp_S → Prop), q_Gd 2 g S0 S → Nf (q_w g S) = some v → (∀ S, q_Gd 2 g S0 S → v = q_w g S → post S) → N (g 0 12 0) S post) (h : fX12_test Uf Nf (q_w g S) = some v) (kk : ∀ S, q_Gd 2 g S0 S → v = q_w g S → post S) : wX12_test U N (g 0 12 0) S post := by
  unfold wX12_test; unfold fX12_test at h
  obtain ⟨v1, h1, h⟩ := q_bvi h
  refine b_X12_sum R hU hN h1 (fun T1 R q => ?_)
  subst q
  obtain ⟨y3, v1, h1, h⟩ := q_bdi h
  refine b_X12_is R h1 (fun T2 R q => ?_)
  subst q
  refine ⟨fun c => ?_, fun c => ?_⟩
  · replace h := q_ifp h c
    obtain ⟨y5, v1, h1, h⟩ := q_bdi h
    refine b_X12_is R h1 (fun T4 R q => ?_)
    subst q
    refine ⟨fun c => ?_, fun c => ?_⟩
    · replace h := q_ifp h c
      obtain ⟨y7, v1, h1, h⟩ := q_bdi h
      refine b_X12_isSign R h1 (fun T6 R q => ?_)
      subst q
      refine ⟨fun c => ?_, fun c => ?_⟩
      · replace h := q_ifp h c
        obtain ⟨y9, v1, h1, h⟩ := q_bdi h
        refine b_X12_is R h1 (fun T8 R q => ?_)
        subst q
        refine ⟨fun c => ?_, fun c => ?_⟩
        · replace h := q_ifp h c
          exact b_X12_test_b64 R hU hN h kk
        · replace h := q_ifn h c
          exact b_X12_test_b64 R hU hN h kk
      · replace h := q_ifn h c
        exact b_X12_test_b64 R hU hN h kk
    · replace h := q_ifn h c
      exact b_X12_test_b64 R hU hN h kk
  · replace h := q_ifn h c
    exact b_X12_test_b64 R hU hN h kk
def fX12_unit_b364 (U : q_V → Option q_V) (N : q_V → Option q_V) (Sn : q_V) : Option q_V :=
  some Sn
theorem b_X12_unit_b364 {g : q_G} {S0 : kp_S} {Uf : q_V → Option q_V} {U : Nat → kp_S → (kp_S → Prop) → Prop} {Nf : q_V → Option q_V} {N : Nat → kp_S → (kp_S → Prop) → Prop} {Sn : kp_S} {post : kp_S → Prop} {v : q_V} (R : q_Gd 2 g S0 Sn) (hU : ∀ (S : kp_S) (v : q_V) (post : kp_S → Prop), q_Gd 2 g S0 S → Uf (q_w g S) = some v → (∀ S, q_Gd 2 g S0 S → v = q_w g S → post S) → U (g 0 12 0) S post) (hN : ∀ (S : kp_S) (v : q_V) (post : kp_S → Prop), q_Gd 2 g S0 S → Nf (q_w g S) = some v → (∀ S, q_Gd 2 g S0 S → v = q_w g S → post S) → N (g 0 12 0) S post) (h : fX12_unit_b364 Uf Nf (q_w g Sn) = some v) (kk : ∀ S, q_Gd 2 g S0 S → v = q_w g S → post S) : wX12_unit_b364 U N (g 0 12 0) Sn post := by
  unfold wX12_unit_b364; unfold fX12_unit_b364 at h
  exact q_finv h kk R
def fX12_unit_b219 (U : q_V → Option q_V) (N : q_V → Option q_V) (xn1 : Int32) (Sn : q_V) : Option q_V :=
  if (xn1) < 0 ∨ 3002 ≤ (xn1).toNatClampNeg then none else
  q_bd (fX12_known ((q_b Sn 2406 xn1.toNatClampNeg)) Sn) (fun y2003 T2002 =>
  q_bd (fX12_emit 2 y2003 0 T2002) (fun y2005 T2004 =>
  fX12_unit_b364 U N T2004))
theorem b_X12_unit_b219 {g : q_G} {S0 : kp_S} {Uf : q_V → Option q_V} {U : Nat → kp_S → (kp_S → Prop) → Prop} {Nf : q_V → Option q_V} {N : Nat → kp_S → (kp_S → Prop) → Prop} {xn1 : Int32} {Sn : kp_S} {post : kp_S → Prop} {v : q_V} (R : q_Gd 2 g S0 Sn) (hU : ∀ (S : kp_S) (v : q_V) (post : kp_S → Prop), q_Gd 2 g S0 S → Uf (q_w g S) = some v → (∀ S, q_Gd 2 g S0 S → v = q_w g S → post S) → U (g 0 12 0) S post) (hN : ∀ (S : kp_S) (v : q_V) (post : kp_S → Prop), q_Gd 2 g S0 S → Nf (q_w g S) = some v → (∀ S, q_Gd 2 g S0 S → v = q_w g S → post S) → N (g 0 12 0) S post) (h : fX12_unit_b219 Uf Nf xn1 (q_w g Sn) = some v) (kk : ∀ S, q_Gd 2 g S0 S → v = q_w g S → post S) : wX12_unit_b219 U N (g 0 12 0) xn1 Sn post := by
  unfold wX12_unit_b219; unfold fX12_unit_b219 at h
  refine ⟨_, q_p2406 R, ?_⟩
  rw [q_l2406 R]
  obtain ⟨hi, h⟩ := q_in h
  refine ⟨hi, ?_⟩
  obtain ⟨y2003, v1, h1, h⟩ := q_bdi h
  refine b_X12_known R h1 (fun T2002 R q => ?_)
  subst q
  obtain ⟨y2005, v1, h1, h⟩ := q_bdi h
  refine b_X12_emit R h1 (fun T2004 R q => ?_)
  subst q
  exact b_X12_unit_b364 R hU hN h kk
def fX12_unit (U : q_V → Option q_V) (N : q_V → Option q_V) (S : q_V) : Option q_V :=
  q_bd (fX12_fine S) (fun y2 T1 =>
  if y2 = 0 then
  some T1
  else
  q_lt ((q_i T1 2410) : Int32) (fun y3 =>
  if (y3) < 0 ∨ 3002 ≤ (y3).toNatClampNeg then none else
  q_lt ((q_a T1 2404 y3.toNatClampNeg) : Int32) (fun y5 =>
  if y5 = 2 then
  q_lt (q_si T1 2410 (((q_i T1 2410) + 1))) (fun T7 =>
  q_bd (fX12_isSign 40 T7) (fun y9 T8 =>
  if y9 = 0 then
  if (y3) < 0 ∨ 3002 ≤ (y3).toNatClampNeg then none else
  q_bd (fX12_known ((q_b T8 2406 y3.toNatClampNeg)) T8) (fun y12 T11 =>
  if y12 = (- 1) then
  q_bv (fX12_bad 5 y3 T11) (fun T13 =>
  fX12_unit_b219 U N y3 T13)
  else
  fX12_unit_b219 U N y3 T11)
  else
  q_bv (fX12_call U N y3 T8) (fun T15 =>
  fX12_unit_b364 U N T15)))
  else
  if y5 = 3 then
  q_lt (q_si T1 2410 (((q_i T1 2410) + 1))) (fun T18 =>
  if (y3) < 0 ∨ 3002 ≤ (y3).toNatClampNeg then none else
  q_bd (fX12_emit 1 (((q_b T18 2406 y3.toNatClampNeg : Int64).toInt32)) 0 T18) (fun y21 T20 =>
  fX12_unit_b364 U N T20))
  else
  if y5 = 37 then
  q_bv (fX12_question U N 1 20 T1) (fun T23 =>
  fX12_unit_b364 U N T23)
  else
  if y5 = 38 then
  q_bv (fX12_question U N 1 21 T1) (fun T25 =>
  fX12_unit_b364 U N T25)
  else
  if y5 = 39 then
  q_bv (fX12_question U N 2 22 T1) (fun T27 =>
  fX12_unit_b364 U N T27)
  else
  if y5 = 40 then
  q_bv (fX12_question U N 1 23 T1) (fun T29 =>
  fX12_unit_b364 U N T29)
  else
  if y5 = 41 then
  q_bv (fX12_question U N 1 24 T1) (fun T31 =>
  fX12_unit_b364 U N T31)
  else
  if y5 = 42 then
  q_lt (q_si T1 2410 (((q_i T1 2410) + 1))) (fun T33 =>
  q_bd (fX12_emit 25 0 0 T33) (fun y35 T34 =>
  fX12_unit_b364 U N T34))
  else
  if y5 = 43 then
  q_lt (q_si T1 2410 (((q_i T1 2410) + 1))) (fun T37 =>
  q_bd (fX12_emit 26 0 0 T37) (fun y39 T38 =>
  fX12_unit_b364 U N T38))
  else
  if y5 = 140 then
  q_bv (fX12_nest T1) (fun T41 =>
  q_bv (fX12_expression U N T41) (fun T42 =>
  q_bv (fX12_takeSign 41 T42) (fun T43 =>
  q_lt (q_si T43 2411 (((q_i T43 2411) - 1))) (fun T44 =>
  fX12_unit_b364 U N T44))))
  else
  if y5 = 145 then
  q_bv (fX12_nest T1) (fun T46 =>
  q_bv (U T46) (fun T47 =>
  q_lt (q_si T47 2411 (((q_i T47 2411) - 1))) (fun T48 =>
  q_bd (fX12_emit 5 0 0 T48) (fun y50 T49 =>
  fX12_unit_b364 U N T49))))
  else
  q_bv (fX12_wrong T1) (fun T51 =>
  fX12_unit_b364 U N T51))))
theorem b_X12_unit {g : q_G} {S0 : kp_S} {Uf : q_V → Option q_V} {U : Nat → kp_S → (kp_S → Prop) → Prop} {Nf : q_V → Option q_V} {N : Nat → kp_S → (kp_S → Prop) → Prop} {S : kp_S} {post : kp_S → Prop} {v : q_V} (R : q_Gd 2 g S0 S) (hU : ∀ (S : kp_S) (v : q_V) (post : kp_S → Prop), q_Gd 2 g S0 S → Uf (q_w g S) = some v → (∀ S, q_Gd 2 g S0 S → v = q_w g S → post S) → U (g 0 12 0) S post) (hN : ∀ (S : kp_S) (v : q_V) (post : kp_S → Prop), q_Gd 2 g S0 S → Nf (q_w g S) = some v → (∀ S, q_Gd 2 g S0 S → v = q_w g S → post S) → N (g 0 12 0) S post) (h : fX12_unit Uf Nf (q_w g S) = some v) (kk : ∀ S, q_Gd 2 g S0 S → v = q_w g S → post S) : wX12_unit U N (g 0 12 0) S post := by
  unfold wX12_unit; unfold fX12_unit at h
  obtain ⟨y2, v1, h1, h⟩ := q_bdi h
  refine b_X12_fine R h1 (fun T1 R q => ?_)
  subst q
  refine ⟨fun c => ?_, fun c => ?_⟩
  · replace h := q_ifn h c
    intro y3 q
    replace h := q_ltw h q
    refine ⟨_, q_p2404 R, ?_⟩
    rw [q_l2404 R]
    obtain ⟨hi, h⟩ := q_in h
    refine ⟨hi, ?_⟩
    intro y5 q
    replace h := q_ltw h q
    refine ⟨fun c => ?_, fun c => ?_⟩
    · replace h := q_ifp h c
      intro T7 q
      obtain ⟨R, q⟩ := q_wI R q rfl rfl
      replace h := q_ltw h q
      obtain ⟨y9, v1, h1, h⟩ := q_bdi h
      refine b_X12_isSign R h1 (fun T8 R q => ?_)
      subst q
      refine ⟨fun c => ?_, fun c => ?_⟩
      · replace h := q_ifp h c
        refine ⟨_, q_p2406 R, ?_⟩
        rw [q_l2406 R]
        obtain ⟨hi, h⟩ := q_in h
        refine ⟨hi, ?_⟩
        obtain ⟨y12, v1, h1, h⟩ := q_bdi h
        refine b_X12_known R h1 (fun T11 R q => ?_)
        subst q
        refine ⟨fun c => ?_, fun c => ?_⟩
        · replace h := q_ifn h c
          exact b_X12_unit_b219 R hU hN h kk
        · replace h := q_ifp h c
          obtain ⟨v1, h1, h⟩ := q_bvi h
          refine b_X12_bad R h1 (fun T13 R q => ?_)
          subst q
          exact b_X12_unit_b219 R hU hN h kk
      · replace h := q_ifn h c
        obtain ⟨v1, h1, h⟩ := q_bvi h
        refine b_X12_call R hU hN h1 (fun T15 R q => ?_)
        subst q
        exact b_X12_unit_b364 R hU hN h kk
    · replace h := q_ifn h c
      refine ⟨fun c => ?_, fun c => ?_⟩
      · replace h := q_ifp h c
        intro T18 q
        obtain ⟨R, q⟩ := q_wI R q rfl rfl
        replace h := q_ltw h q
        refine ⟨_, q_p2406 R, ?_⟩
        rw [q_l2406 R]
        obtain ⟨hi, h⟩ := q_in h
        refine ⟨hi, ?_⟩
        obtain ⟨y21, v1, h1, h⟩ := q_bdi h
        refine b_X12_emit R h1 (fun T20 R q => ?_)
        subst q
        exact b_X12_unit_b364 R hU hN h kk
      · replace h := q_ifn h c
        refine ⟨fun c => ?_, fun c => ?_⟩
        · replace h := q_ifp h c
          obtain ⟨v1, h1, h⟩ := q_bvi h
          refine b_X12_question R hU hN h1 (fun T23 R q => ?_)
          subst q
          exact b_X12_unit_b364 R hU hN h kk
        · replace h := q_ifn h c
          refine ⟨fun c => ?_, fun c => ?_⟩
          · replace h := q_ifp h c
            obtain ⟨v1, h1, h⟩ := q_bvi h
            refine b_X12_question R hU hN h1 (fun T25 R q => ?_)
            subst q
            exact b_X12_unit_b364 R hU hN h kk
          · replace h := q_ifn h c
            refine ⟨fun c => ?_, fun c => ?_⟩
            · replace h := q_ifp h c
              obtain ⟨v1, h1, h⟩ := q_bvi h
              refine b_X12_question R hU hN h1 (fun T27 R q => ?_)
              subst q
              exact b_X12_unit_b364 R hU hN h kk
            · replace h := q_ifn h c
              refine ⟨fun c => ?_, fun c => ?_⟩
              · replace h := q_ifp h c
                obtain ⟨v1, h1, h⟩ := q_bvi h
                refine b_X12_question R hU hN h1 (fun T29 R q => ?_)
                subst q
                exact b_X12_unit_b364 R hU hN h kk
              · replace h := q_ifn h c
                refine ⟨fun c => ?_, fun c => ?_⟩
                · replace h := q_ifp h c
                  obtain ⟨v1, h1, h⟩ := q_bvi h
                  refine b_X12_question R hU hN h1 (fun T31 R q => ?_)
                  subst q
                  exact b_X12_unit_b364 R hU hN h kk
                · replace h := q_ifn h c
                  refine ⟨fun c => ?_, fun c => ?_⟩
                  · replace h := q_ifp h c
                    intro T33 q
                    obtain ⟨R, q⟩ := q_wI R q rfl rfl
                    replace h := q_ltw h q
                    obtain ⟨y35, v1, h1, h⟩ := q_bdi h
                    refine b_X12_emit R h1 (fun T34 R q => ?_)
                    subst q
                    exact b_X12_unit_b364 R hU hN h kk
                  · replace h := q_ifn h c
                    refine ⟨fun c => ?_, fun c => ?_⟩
                    · replace h := q_ifp h c
                      intro T37 q
                      obtain ⟨R, q⟩ := q_wI R q rfl rfl
                      replace h := q_ltw h q
                      obtain ⟨y39, v1, h1, h⟩ := q_bdi h
                      refine b_X12_emit R h1 (fun T38 R q => ?_)
                      subst q
                      exact b_X12_unit_b364 R hU hN h kk
                    · replace h := q_ifn h c
                      refine ⟨fun c => ?_, fun c => ?_⟩
                      · replace h := q_ifp h c
                        obtain ⟨v1, h1, h⟩ := q_bvi h
                        refine b_X12_nest R h1 (fun T41 R q => ?_)
                        subst q
                        obtain ⟨v1, h1, h⟩ := q_bvi h
                        refine b_X12_expression R hU hN h1 (fun T42 R q => ?_)
                        subst q
                        obtain ⟨v1, h1, h⟩ := q_bvi h
                        refine b_X12_takeSign R h1 (fun T43 R q => ?_)
                        subst q
                        intro T44 q
                        obtain ⟨R, q⟩ := q_wI R q rfl rfl
                        replace h := q_ltw h q
                        exact b_X12_unit_b364 R hU hN h kk
                      · replace h := q_ifn h c
                        refine ⟨fun c => ?_, fun c => ?_⟩
                        · replace h := q_ifp h c
                          obtain ⟨v1, h1, h⟩ := q_bvi h
                          refine b_X12_nest R h1 (fun T46 R q => ?_)
                          subst q
                          obtain ⟨v1, h1, h⟩ := q_bvi h
                          refine hU _ _ _ R h1 (fun T47 R q => ?_)
                          subst q
                          intro T48 q
                          obtain ⟨R, q⟩ := q_wI R q rfl rfl
                          replace h := q_ltw h q
                          obtain ⟨y50, v1, h1, h⟩ := q_bdi h
                          refine b_X12_emit R h1 (fun T49 R q => ?_)
                          subst q
                          exact b_X12_unit_b364 R hU hN h kk
                        · replace h := q_ifn h c
                          obtain ⟨v1, h1, h⟩ := q_bvi h
                          refine b_X12_wrong R h1 (fun T51 R q => ?_)
                          subst q
                          exact b_X12_unit_b364 R hU hN h kk
  · replace h := q_ifp h c
    exact q_finv h kk R
def fX12_turned (U : q_V → Option q_V) (N : q_V → Option q_V) (S : q_V) : Option q_V :=
  q_bd (fX12_is 32 S) (fun y2 T1 =>
  if y2 = 0 then
  q_bv (fX12_test U N T1) (fun T8 =>
  some T8)
  else
  q_bv (fX12_nest T1) (fun T3 =>
  q_bv (N T3) (fun T4 =>
  q_lt (q_si T4 2411 (((q_i T4 2411) - 1))) (fun T5 =>
  q_bd (fX12_emit 6 0 0 T5) (fun y7 T6 =>
  some T6)))))
theorem b_X12_turned {g : q_G} {S0 : kp_S} {Uf : q_V → Option q_V} {U : Nat → kp_S → (kp_S → Prop) → Prop} {Nf : q_V → Option q_V} {N : Nat → kp_S → (kp_S → Prop) → Prop} {S : kp_S} {post : kp_S → Prop} {v : q_V} (R : q_Gd 2 g S0 S) (hU : ∀ (S : kp_S) (v : q_V) (post : kp_S → Prop), q_Gd 2 g S0 S → Uf (q_w g S) = some v → (∀ S, q_Gd 2 g S0 S → v = q_w g S → post S) → U (g 0 12 0) S post) (hN : ∀ (S : kp_S) (v : q_V) (post : kp_S → Prop), q_Gd 2 g S0 S → Nf (q_w g S) = some v → (∀ S, q_Gd 2 g S0 S → v = q_w g S → post S) → N (g 0 12 0) S post) (h : fX12_turned Uf Nf (q_w g S) = some v) (kk : ∀ S, q_Gd 2 g S0 S → v = q_w g S → post S) : wX12_turned U N (g 0 12 0) S post := by
  unfold wX12_turned; unfold fX12_turned at h
  obtain ⟨y2, v1, h1, h⟩ := q_bdi h
  refine b_X12_is R h1 (fun T1 R q => ?_)
  subst q
  refine ⟨fun c => ?_, fun c => ?_⟩
  · replace h := q_ifn h c
    obtain ⟨v1, h1, h⟩ := q_bvi h
    refine b_X12_nest R h1 (fun T3 R q => ?_)
    subst q
    obtain ⟨v1, h1, h⟩ := q_bvi h
    refine hN _ _ _ R h1 (fun T4 R q => ?_)
    subst q
    intro T5 q
    obtain ⟨R, q⟩ := q_wI R q rfl rfl
    replace h := q_ltw h q
    obtain ⟨y7, v1, h1, h⟩ := q_bdi h
    refine b_X12_emit R h1 (fun T6 R q => ?_)
    subst q
    exact q_finv h kk R
  · replace h := q_ifp h c
    obtain ⟨v1, h1, h⟩ := q_bvi h
    refine b_X12_test R hU hN h1 (fun T8 R q => ?_)
    subst q
    exact q_finv h kk R
def fx12e_rec : Nat → Nat → q_V → Option q_V
  | 0, _, _ => none
  | n + 1, 0, v => fX12_unit (fx12e_rec n 0) (fx12e_rec n 1) v
  | n + 1, _, v => fX12_turned (fx12e_rec n 0) (fx12e_rec n 1) v
theorem b_x12e_rec {g : q_G} {S0 : kp_S} : ∀ n : Nat, (∀ (S : kp_S) (v : q_V) (post : kp_S → Prop), q_Gd 2 g S0 S → fx12e_rec n 0 (q_w g S) = some v → (∀ S, q_Gd 2 g S0 S → v = q_w g S → post S) → wx12e_rec n 0 (g 0 12 0) S post) ∧ (∀ (S : kp_S) (v : q_V) (post : kp_S → Prop), q_Gd 2 g S0 S → fx12e_rec n 1 (q_w g S) = some v → (∀ S, q_Gd 2 g S0 S → v = q_w g S → post S) → wx12e_rec n 1 (g 0 12 0) S post) := by
  intro n
  induction n with
  | zero => exact ⟨fun S v post R h kk => (by cases h), fun S v post R h kk => (by cases h)⟩
  | succ n ih => exact ⟨fun S v post R h kk => b_X12_unit R ih.1 ih.2 h kk, fun S v post R h kk => b_X12_turned R ih.1 ih.2 h kk⟩
def fX12_expression_t (v : q_V) : Option q_V := fX12_expression (fx12e_rec 36 0) (fx12e_rec 36 1) v
theorem b_X12_expression_t {g : q_G} {S0 : kp_S} {S : kp_S} {post : kp_S → Prop} {v : q_V} (R : q_Gd 2 g S0 S) (h : fX12_expression_t (q_w g S) = some v) (kk : ∀ S, q_Gd 2 g S0 S → v = q_w g S → post S) : wX12_expression_t (g 0 12 0) S post := b_X12_expression R (b_x12e_rec 36).1 (b_x12e_rec 36).2 h kk
def fX12_call_t (x1 : Int32) (v : q_V) : Option q_V := fX12_call (fx12e_rec 36 0) (fx12e_rec 36 1) x1 v
theorem b_X12_call_t {g : q_G} {S0 : kp_S} {x1 : Int32} {S : kp_S} {post : kp_S → Prop} {v : q_V} (R : q_Gd 2 g S0 S) (h : fX12_call_t x1 (q_w g S) = some v) (kk : ∀ S, q_Gd 2 g S0 S → v = q_w g S → post S) : wX12_call_t (g 0 12 0) x1 S post := b_X12_call R (b_x12e_rec 36).1 (b_x12e_rec 36).2 h kk
