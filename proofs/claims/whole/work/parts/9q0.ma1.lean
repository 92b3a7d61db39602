set_option maxHeartbeats 200000 in
/-- the reference's run with a free number of steps -/
theorem b_L82N {g : q_G} {S0 : kp_S} {N : Nat} {x1 x2 x3 x4 : Int32} {post : Int32 → kp_S → Prop} {y : Int32} {v : q_V} (kk : ∀ S, q_Gd 2 g S0 S → v = q_w g S → post y S) : ∀ (n : Nat) (xn5 : Int32) (xn6 : Int32) (Sn : kp_S), q_Gd 2 g S0 Sn → ru_L82 N x1 x2 x3 x4 n xn5 xn6 (q_w g Sn) = some (y, v) → wX12_run_L82 (g 0 12 0) x1 x2 x3 x4 post n xn5 xn6 Sn := by
  intro n
  induction n with
  | zero => intro xn5 xn6 Sn _ h; cases h
  | succ n ih =>
    intro xn5 xn6 Sn R h
    unfold wX12_run_L82; unfold ru_L82 at h
    refine ⟨fun c => ?_, fun c => ?_⟩
    · replace h := q_ifp h c
      obtain ⟨v1, h1, h⟩ := q_bvi h
      refine b_X12_calls R h1 (fun T6001 R q => ?_)
      subst q
      exact ⟨N, b_X12_run_L126 kk N _ R h⟩
    · replace h := q_ifn h c
      refine ⟨fun c => ?_, fun c => ?_⟩
      · replace h := q_ifn h c
        refine ⟨fun c => ?_, fun c => ?_⟩
        · replace h := q_ifn h c
          exact b_X12_run_b110 R (fun xn5_ xn6_ S_ R h => ih xn5_ xn6_ S_ R h) h kk
        · replace h := q_ifp h c
          exact b_X12_run_b110 R (fun xn5_ xn6_ S_ R h => ih xn5_ xn6_ S_ R h) h kk
      · replace h := q_ifp h c
        exact b_X12_run_b110 R (fun xn5_ xn6_ S_ R h => ih xn5_ xn6_ S_ R h) h kk
set_option maxHeartbeats 200000 in
theorem b_runN {g : q_G} {S0 : kp_S} {N : Nat} {x1 x2 x3 x4 : Int32} {S : kp_S} {post : Int32 → kp_S → Prop} {y : Int32} {v : q_V} (R : q_Gd 2 g S0 S) (h : ru_all N x1 x2 x3 x4 (q_w g S) = some (y, v)) (kk : ∀ S, q_Gd 2 g S0 S → v = q_w g S → post y S) : wX12_run (g 0 12 0) x1 x2 x3 x4 S post := by
  unfold wX12_run; unfold ru_all ru_runT at h
  intro T1 q
  obtain ⟨R, q⟩ := q_wI R q rfl rfl
  replace h := q_ltw h q
  refine ⟨fun c => ?_, fun c => ?_⟩
  · replace h := q_ifp h c
    exact b_X12_run_b22 R h kk
  · replace h := q_ifn h c
    refine ⟨fun c => ?_, fun c => ?_⟩
    · replace h := q_ifp h c
      refine ⟨fun c => ?_, fun c => ?_⟩
      · replace h := q_ifp h c
        exact b_X12_run_b54 R h kk
      · replace h := q_ifn h c
        refine ⟨fun c => ?_, fun c => ?_⟩
        · replace h := q_ifp h c
          exact b_X12_run_b54 R h kk
        · replace h := q_ifn h c
          refine ⟨fun c => ?_, fun c => ?_⟩
          · replace h := q_ifp h c
            exact b_X12_run_b54 R h kk
          · replace h := q_ifn h c
            refine ⟨fun c => ?_, fun c => ?_⟩
            · replace h := q_ifp h c
              obtain ⟨v1, h1, h⟩ := q_bvi h
              refine b_X12_clear R h1 (fun T2 R q => ?_)
              subst q
              intro T3 q
              obtain ⟨R, q⟩ := q_wI R q rfl rfl
              replace h := q_ltw h q
              refine ⟨_, q_p2458 R, ?_⟩
              rw [q_l2458 R]
              obtain ⟨hi, h⟩ := q_in h
              refine ⟨hi, ?_⟩
              intro y5 q
              replace h := q_ltw h q
              exact ⟨q_N, b_L82N kk q_N _ _ _ R h⟩
            · replace h := q_ifn h c
              exact b_X12_run_b54 R h kk
    · replace h := q_ifn h c
      exact b_X12_run_b22 R h kk
