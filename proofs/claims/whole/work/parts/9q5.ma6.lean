/-- the law's own array -/
def LA (g : q_G) (a : Nat) (S : kp_S) : Prop := a ∈ kp_L S ∧ kp_N S a = 1 ∧ ∀ t k n, a ≠ g t k n
section
variable {g : q_G} {S T S0 : kp_S} {P : kp_S → Prop} {x1 x2 x3 x4 : Int32} {a : Nat} {C1 C2 C3 C4 : Prop}
set_option maxHeartbeats 200000 in
theorem LA_le (h : LA g a S) (l : kp_le S T) : LA g a T := ⟨(l a h.1).1, (l a h.1).2.2.trans h.2.1, h.2.2⟩
set_option maxHeartbeats 200000 in
theorem LA_w {f : Nat → Int64} (h : LA g a S) : q_w g (kp_sB S a f) = q_w g S := by
  refine Prod.ext rfl (Prod.ext rfl (Prod.ext rfl (Prod.ext (funext fun j => ?_) rfl)))
  show kp_B (kp_sB S a f) (g 1 j 0) = kp_B S (g 1 j 0)
  rw [rd_B_sB, if_neg (fun z => h.2.2 _ _ _ z.symm)]
set_option maxHeartbeats 200000 in
theorem k_run (h1 : C1) (h2 : C2) (h3 : C3) (h4 : C4) (h : LI g S) (ha : LA g a S) (kk : ∀ T, LI g T → kp_le S T → P T) : wL_run (g 0 11 0) x1 x2 x3 x4 a S (fun y T => C1 ∧ C2 ∧ C3 ∧ C4 ∧ wX12_run (g 0 12 0) x1 x2 x3 x4 T (fun y' T2 => wX12_thrown (g 0 12 0) T2 (fun y'' T3 => (y'' = y → ((¬ y = 0 → P T3) ∧ (y = 0 → vp_in ((0 : Int32)) (kp_N T3 a) ∧ (((lg_cmp (kp_B T3 a ((0 : Int32)).toNatClampNeg) ((y' : Int32).toInt64)) = 0 → P T3) ∧ (¬ (lg_cmp (kp_B T3 a ((0 : Int32)).toNatClampNeg) ((y' : Int32).toInt64)) = 0 → False))))) ∧ (¬ y'' = y → False)))) := by
  have fin : ∀ U T2 v2, kp_le S U → q_gr 3 g (kp_R U) (kp_C U) (kp_N U) → q_Gd 2 g U T2 → v2 = q_w g T2 → LR v2 v2 → P T2 := fun U T2 v2 l0 gu R e lr => by
    subst e
    have mU := q_mem_le h.2.2.1 l0
    exact kk T2 ⟨h.1, G_3 R gu mU rfl, q_mem_le mU R.2.2.1, lr⟩ (l0.tr R.2.2.1)
  have g2 : ∀ U, q_gr 3 g (kp_R U) (kp_C U) (kp_N U) → q_Gd 2 g U U := fun U gu => ⟨h.1, ⟨gu.1, fun k hk => absurd hk (by simp [q_bp]), gu.2.2⟩, kp_fr.rf⟩
  unfold wL_run
  rcases g_run (x1 := x1) (x2 := x2) (x3 := x3) (x4 := x4) h.2.2.2 with ⟨e, v2, r1, r2, r3, r4, r5⟩ | ⟨r1, N, o, v1, v2, r2, r3, r4, r5⟩
  · have ne : e ≠ 0 := by rcases r1 with z | z <;> rw [z] <;> decide
    refine w_run h (fun T e' J ev er he => ?_) (fun z => absurd (r2.symm.trans z) ne)
    have ee : e' = e := er.symm.trans r2
    subst ee
    refine ⟨h1, h2, h3, h4, b_runN (N := 0) (g2 T J.2.1) (by rw [ev]; exact r3 0) (fun T2 R q => ?_)⟩
    have t0 : kp_I T2 2400 (g 0 12 0) = e' := by rw [← r4, q]; rfl
    unfold wX12_thrown
    exact ⟨fun _ => ⟨fun _ => fin T T2 v2 J.2.2 J.2.1 R q r5, fun z => absurd z ne⟩, fun z => z t0⟩
  · refine w_run h (fun T e' J ev er he => ?_) (fun _ => ⟨o, v1, r2, fun T J q => ?_⟩)
    · have : e' = 0 := er.symm.trans r1
      rcases he with z | z <;> rw [z] at this <;> exact absurd this (by decide)
    · have aT := LA_le ha J.2.2
      refine ⟨?_, fun U eU => ?_⟩
      · unfold vp_in; rw [aT.2.1]; decide
      · have lU : kp_le T U := by subst eU; exact fun _ z => ⟨z, rfl, rfl⟩
        have gU : q_gr 3 g (kp_R U) (kp_C U) (kp_N U) := by subst eU; exact J.2.1
        have vU : q_w g U = v1 := by subst eU; rw [q]; exact LA_w aT
        have bU : kp_B U a 0 = o.toInt64 := by
          subst eU
          rw [rd_B_sB, if_pos rfl]; rfl
        refine ⟨h1, h2, h3, h4, b_runN (N := N) (g2 U gU) (by rw [vU]; exact r3) (fun T2 R q2 => ?_)⟩
        have aU := LA_le aT lU
        have aT2 := LA_le aU R.2.2.1
        have t0 : kp_I T2 2400 (g 0 12 0) = 0 := by rw [← r4, q2]; rfl
        have own : ¬ q_own 2 g a := by
          rintro ⟨t, k, n, _, z⟩; exact aU.2.2 t k n z
        have b2 : kp_B T2 a = kp_B U a := (R.2.2.2 a aU.1 own).2.2.2.2.1
        have pT : P T2 := fin U T2 v2 (J.2.2.tr lU) gU R q2 r5
        have c0 : lg_cmp (kp_B T2 a ((0 : Int32)).toNatClampNeg) (o.toInt64) = 0 := by
          rw [show ((0 : Int32)).toNatClampNeg = 0 from rfl, b2, bU]
          unfold lg_cmp
          simp
        unfold wX12_thrown
        exact ⟨fun _ => ⟨fun z => absurd rfl z, fun _ => ⟨by unfold vp_in; rw [aT2.2.1]; decide, fun _ => pT, fun z => absurd c0 z⟩⟩, fun z => z t0⟩
end
