def mc1 : kp_S := kp_new kp_0 0 11
def mc2 : kp_S := kp_new (aR mc1 1 13 3000 2200 0) 2 0
def mc3 : kp_S := aR (aR mc2 3 14 0 0 2) 4 14 0 2 2
def mc4 : kp_S := kp_new (kp_new (kp_sR mc3 2205 0 2) 5 8) 6 9
def mc5 : kp_S := aR (kp_sR mc4 1800 6 1) 7 15 40 1801 6
def mc6 : kp_S := kp_sB mc5 7 (kwf 210 0 0 0 (kp_B mc5 7))
def mc7 : kp_S := kp_new (kp_sR mc6 1600 5 6) 8 5
def mc8 : kp_S := aR (aR (aR (aR (aR (aR mc7 9 15 300 1000 8) 10 14 300 1001 8) 11 15 24 1003 8) 12 14 24 1004 8) 13 15 14 1007 8) 14 14 14 1008 8
def mc9 : kp_S := kp_new (kp_sR (kp_sR mc8 1601 5 8) 1603 5 2) 15 2
def mc10 : kp_S := kp_sR (kp_sR (kp_sR (kp_sR mc9 400 15 6) 401 15 8) 402 15 2) 1602 5 15
def mc11 : kp_S := kp_new (kp_sR mc10 2201 0 5) 16 1
def mc12 : kp_S := aR (aR (aR (aR (aR mc11 17 14 6 200 16) 18 14 7 201 16) 19 14 12 202 16) 20 14 6 203 16) 21 14 8 204 16
def mc13 : kp_S := kp_new (kp_sR mc12 2202 0 16) 22 7
def mc14 : kp_S := aR (aR (aR mc13 23 14 19 1400 22) 24 14 300 1401 22) 25 14 300 1402 22
def mc15 : kp_S := kp_sA (kp_sA mc14 23 (upd (kp_A mc14 23) 0 (-1))) 23 (upd (upd (kp_A mc14 23) 0 (-1)) 4 (-1))
def mc16 : kp_S := kp_new (kp_sR mc15 2203 0 22) 26 4
def mc17 : kp_S := kp_new (aR (aR (aR mc16 27 14 1680 802 26) 28 17 12 804 26) 29 18 168 806 26) 30 10
def mc18 : kp_S := kp_sR (kp_sR (kp_sR (kp_sR mc17 808 26 30) 800 26 16) 801 26 22) 809 26 2
def mc19 : kp_S := mfs 12 0 31 mc18
def mc20 : kp_S := mps 168 0 67 mc19
def mc21 : kp_S := kp_sI (kp_sR mc20 2204 0 26) 2208 0 (-1)
section
variable {p : List (Nat × Nat)} {n i j c m k x t a a0 a1 a2 a3 : Nat} {M S : kp_S} {post : kp_S → Prop}
set_option maxHeartbeats 200000 in
theorem k0_X0 (I : iq p 3 mc2 S) (h : (2, a0) ∈ p) (kk : ∀ S', iq p 5 mc3 S' → post S') : wX0_init a0 0 S post := by
  unfold wX0_init wX0_init_b19 wX0_init_b36
  refine ⟨fun _ => ⟨by decide, by decide, iq_w I h (by decide) (fun S1 I1 => ⟨fun _ => ⟨by decide, by decide, iq_w I1 h (by decide) (fun S2 I2 => kk S2 I2)⟩, fun z => absurd (by decide) z⟩)⟩, fun z => absurd (by decide) z⟩
set_option maxHeartbeats 200000 in
theorem k0_X9 (I : iq p 7 mc4 S) (h : (6, a0) ∈ p) (h1 : (1, a1) ∈ p) (kk : ∀ S', iq p 8 mc6 S' → post S') : wX9_init a0 a1 S post := by
  unfold wX9_init
  intro T1 e1
  subst e1
  refine iq_w (iq_R I h h1) h (by decide) (fun S1 I1 => ⟨211, ?_⟩)
  have I2 : iq p 8 mc5 S1 := I1
  refine w_kw (M := mc5) (j := 7) h (by decide +kernel) (by decide +kernel) (by decide +kernel) (by decide +kernel) 210 0 0 0 (kp_B mc5 7) S1 (by omega) (by omega) (by rw [sB_id]; exact I2) kk
set_option maxHeartbeats 200000 in
theorem k0_X5 (I : iq p 9 mc7 S) (h : (8, a0) ∈ p) (kk : ∀ S', iq p 15 mc8 S' → post S') : wX5_init a0 S post := by
  unfold wX5_init
  exact iq_w I h (by decide) (fun S I => iq_w I h (by decide) (fun S I => iq_w I h (by decide) (fun S I => iq_w I h (by decide) (fun S I => iq_w I h (by decide) (fun S I => iq_w I h (by decide) (fun S I => kk S I))))))
set_option maxHeartbeats 200000 in
theorem k0_X1 (I : iq p 17 mc11 S) (h : (16, a0) ∈ p) (kk : ∀ S', iq p 22 mc12 S' → post S') : wX1_init a0 S post := by
  unfold wX1_init
  exact iq_w I h (by decide) (fun S I => iq_w I h (by decide) (fun S I => iq_w I h (by decide) (fun S I => iq_w I h (by decide) (fun S I => iq_w I h (by decide) (fun S I => kk S I)))))
set_option maxHeartbeats 200000 in
theorem k0_X8 (I : iq p 6 (kp_new (kp_sR mc3 2205 0 2) 5 8) S) (h : (5, a0) ∈ p) (h1 : (1, a1) ∈ p) (h2 : (2, a2) ∈ p) (kk : ∀ S', iq p 16 mc10 S' → post S') : wX8_init a0 a1 a2 S post := by
  unfold wX8_init
  intro b1 T2 hb1 e2
  subst e2
  have I1 : iq ((6, b1) :: p) 7 mc4 (kp_new S b1 9) := iq_N I hb1 (by decide)
  refine k0_X9 I1 List.mem_cons_self (List.mem_cons_of_mem _ h1) (fun S3 I3 => ?_)
  intro T4 e4 b5 T6 hb5 e6
  have I4 := iq_R (k := 1600) I3 (List.mem_cons_of_mem _ h) List.mem_cons_self
  rw [← e4] at I4
  subst e6
  have I6 : iq ((8, b5) :: (6, b1) :: p) 9 mc7 (kp_new T4 b5 5) := iq_N I4 hb5 (by decide)
  refine k0_X5 I6 List.mem_cons_self (fun S7 I7 => ?_)
  intro T8 e8 T9 e9 b10 T11 hb10 e11
  have m5 : (5, a0) ∈ (8, b5) :: (6, b1) :: p := List.mem_cons_of_mem _ (List.mem_cons_of_mem _ h)
  have m2 : (2, a2) ∈ (8, b5) :: (6, b1) :: p := List.mem_cons_of_mem _ (List.mem_cons_of_mem _ h2)
  have I8 := iq_R (k := 1601) I7 m5 List.mem_cons_self
  rw [← e8] at I8
  have I9 := iq_R (k := 1603) I8 m5 m2
  rw [← e9] at I9
  subst e11
  have I11 : iq ((15, b10) :: (8, b5) :: (6, b1) :: p) 16 mc9 (kp_new T9 b10 2) := iq_N I9 hb10 (by decide)
  have m5 := List.mem_cons_of_mem (15, b10) m5
  have m2 := List.mem_cons_of_mem (15, b10) m2
  obtain ⟨r1, I12⟩ := iq_rd (k := 1600) (j := 6) I11 m5 (by decide +kernel) (by decide +kernel)
  refine ⟨_, r1, ?_⟩
  have m5 := List.mem_cons_of_mem (6, iq_a (kp_new T9 b10 2) 6) m5
  have m2 := List.mem_cons_of_mem (6, iq_a (kp_new T9 b10 2) 6) m2
  obtain ⟨r2, I13⟩ := iq_rd (k := 1601) (j := 8) I12 m5 (by decide +kernel) (by decide +kernel)
  refine ⟨_, r2, ?_⟩
  have m5 := List.mem_cons_of_mem (8, iq_a (kp_new T9 b10 2) 8) m5
  have m2 := List.mem_cons_of_mem (8, iq_a (kp_new T9 b10 2) 8) m2
  unfold wX2_init
  have m8 : (8, iq_a (kp_new T9 b10 2) 8) ∈ (8, iq_a (kp_new T9 b10 2) 8) :: (6, iq_a (kp_new T9 b10 2) 6) :: (15, b10) :: (8, b5) :: (6, b1) :: p := List.mem_cons_self
  have m6 : (6, iq_a (kp_new T9 b10 2) 6) ∈ (8, iq_a (kp_new T9 b10 2) 8) :: (6, iq_a (kp_new T9 b10 2) 6) :: (15, b10) :: (8, b5) :: (6, b1) :: p := List.mem_cons_of_mem _ List.mem_cons_self
  have m15 : (15, b10) ∈ (8, iq_a (kp_new T9 b10 2) 8) :: (6, iq_a (kp_new T9 b10 2) 6) :: (15, b10) :: (8, b5) :: (6, b1) :: p := List.mem_cons_of_mem _ (List.mem_cons_of_mem _ List.mem_cons_self)
  intro T1 e1 T2 e2 T3 e3 T15 e15
  have J1 := iq_R (k := 400) I13 m15 m6
  rw [← e1] at J1
  have J2 := iq_R (k := 401) J1 m15 m8
  rw [← e2] at J2
  have J3 := iq_R (k := 402) J2 m15 m2
  rw [← e3] at J3
  have J4 := iq_R (k := 1602) J3 m5 m15
  rw [← e15] at J4
  exact kk T15 (iq_sub J4 (fun _ h => List.mem_cons_of_mem _ (List.mem_cons_of_mem _ (List.mem_cons_of_mem _ (List.mem_cons_of_mem _ (List.mem_cons_of_mem _ h))))))
set_option maxHeartbeats 200000 in
theorem k0_X7 (I : iq p 23 mc13 S) (h : (22, a0) ∈ p) (kk : ∀ S', iq p 26 mc15 S' → post S') : wX7_init a0 S post := by
  unfold wX7_init
  refine iq_w I h (by decide) (fun S I => iq_w I h (by decide) (fun S I => iq_w I h (by decide) (fun S I => ?_)))
  have I9 : iq p 26 mc14 S := I
  obtain ⟨r1, I10⟩ := iq_rd (k := 1400) (j := 23) I9 h (by decide +kernel) (by decide +kernel)
  have l1 := iq_len I10 List.mem_cons_self (by decide +kernel)
  have n1 : kp_N S (iq_a S 23) = 19 := l1.1.trans (by decide +kernel)
  refine ⟨_, r1, ?_, fun T11 e11 => ⟨?_, fun T12 e12 => ?_⟩⟩
  · rw [n1]; unfold vp_in; decide
  · rw [e11, rd_N_sA, n1]; unfold vp_in; decide
  · have J1 := iq_sA (r := upd (kp_A S (iq_a S 23)) 0 (-1)) I10 List.mem_cons_self
    have e11 : T11 = kp_sA S (iq_a S 23) (upd (kp_A S (iq_a S 23)) 0 (-1)) := e11
    have q1 : kp_A T11 (iq_a S 23) = upd (kp_A S (iq_a S 23)) 0 (-1) := by rw [e11, rd_A_sA, if_pos rfl]
    have e12 : T12 = kp_sA T11 (iq_a S 23) (upd (kp_A T11 (iq_a S 23)) 4 (-1)) := e12
    rw [← e11] at J1
    have J2 := iq_sA (r := upd (kp_A T11 (iq_a S 23)) 4 (-1)) J1 List.mem_cons_self
    rw [← e12, q1, l1.2.1] at J2
    exact kk T12 (iq_sub J2 (fun _ h => List.mem_cons_of_mem _ h))
set_option maxHeartbeats 200000 in
theorem k0_X4 (I : iq p 27 mc16 S) (h : (26, a0) ∈ p) (h1 : (16, a1) ∈ p) (h2 : (22, a2) ∈ p) (h3 : (2, a3) ∈ p) (kk : ∀ S', iq p 403 mc20 S' → post S') : wX4_init a0 a1 a2 a3 S post := by
  unfold wX4_init
  refine iq_w I h (by decide) (fun S I => iq_w I h (by decide) (fun S I => iq_w I h (by decide) (fun S I => ?_)))
  intro b10 T11 hb10 e11
  subst e11
  have I11 : iq ((30, b10) :: p) 31 mc17 (kp_new S b10 10) := iq_N I hb10 (by decide)
  unfold wX10_init
  intro T13 e13 T14 e14 T15 e15 T16 e16
  have J1 := iq_R (k := 808) I11 (List.mem_cons_of_mem _ h) List.mem_cons_self
  rw [← e13] at J1
  have J2 := iq_R (k := 800) J1 (List.mem_cons_of_mem _ h) (List.mem_cons_of_mem _ h1)
  rw [← e14] at J2
  have J3 := iq_R (k := 801) J2 (List.mem_cons_of_mem _ h) (List.mem_cons_of_mem _ h2)
  rw [← e15] at J3
  have J4 := iq_R (k := 809) J3 (List.mem_cons_of_mem _ h) (List.mem_cons_of_mem _ h3)
  rw [← e16] at J4
  have J5 : iq p 31 mc18 T16 := iq_sub J4 (fun _ h => List.mem_cons_of_mem _ h)
  refine w_fr h 12 0 31 mc18 T16 (by omega) (by omega) J5 (by decide +kernel) (by decide +kernel) (by decide +kernel) (by decide +kernel) (fun S' I' => ?_)
  have I' : iq p 67 mc19 S' := I'
  exact w_pt h 168 0 67 mc19 S' (by omega) (by omega) I' (by decide +kernel) (by decide +kernel) (by decide +kernel) (by decide +kernel) kk
set_option maxHeartbeats 200000 in
/-- the class's constructor -/
theorem k0_X11 (I : iq p 1 mc1 S) (hz : (0, a0) ∈ p) (kk : ∀ S', iq p 403 mc21 S' → post S') : wX11_init a0 S post := by
  unfold wX11_init
  refine iq_w I hz (by decide) (fun S3 I3 => ?_)
  intro b4 T5 hb4 e5
  subst e5
  have I5 : iq ((2, b4) :: p) 3 mc2 (kp_new S3 b4 0) := iq_N I3 hb4 (by decide)
  have h := List.mem_cons_of_mem (2, b4) hz
  refine k0_X0 I5 List.mem_cons_self (fun S6 I6 => ?_)
  intro T7 e7 b8 T9 hb8 e9
  have I7 := iq_R (k := 2205) I6 h List.mem_cons_self
  rw [← e7] at I7
  subst e9
  have I9 := iq_N (c := 8) I7 hb8 (by decide)
  have h := List.mem_cons_of_mem (5, b8) h
  obtain ⟨r1, I10⟩ := iq_rd (k := 2200) (j := 1) I9 h (by decide +kernel) (by decide +kernel)
  refine ⟨_, r1, ?_⟩
  have h := List.mem_cons_of_mem (1, iq_a (kp_new T7 b8 8) 1) h
  obtain ⟨r2, I11⟩ := iq_rd (k := 2205) (j := 2) I10 h (by decide +kernel) (by decide +kernel)
  refine ⟨_, r2, ?_⟩
  refine k0_X8 I11 (List.mem_cons_of_mem _ (List.mem_cons_of_mem _ List.mem_cons_self)) (List.mem_cons_of_mem _ List.mem_cons_self) List.mem_cons_self (fun S12 I12 => ?_)
  have I12 := iq_sub I12 (p' := (5, b8) :: (2, b4) :: p) (fun _ h => List.mem_cons_of_mem _ (List.mem_cons_of_mem _ h))
  have h0 : (0, a0) ∈ (5, b8) :: (2, b4) :: p := List.mem_cons_of_mem _ (List.mem_cons_of_mem _ hz)
  intro T13 e13 b14 T15 hb14 e15
  have I13 := iq_R (k := 2201) I12 h0 List.mem_cons_self
  rw [← e13] at I13
  subst e15
  have I15 : iq ((16, b14) :: (5, b8) :: (2, b4) :: p) 17 mc11 (kp_new T13 b14 1) := iq_N I13 hb14 (by decide)
  have h0 := List.mem_cons_of_mem (16, b14) h0
  refine k0_X1 I15 List.mem_cons_self (fun S16 I16 => ?_)
  intro T17 e17 b18 T19 hb18 e19
  have I17 := iq_R (k := 2202) I16 h0 List.mem_cons_self
  rw [← e17] at I17
  subst e19
  have I19 : iq ((22, b18) :: (16, b14) :: (5, b8) :: (2, b4) :: p) 23 mc13 (kp_new T17 b18 7) := iq_N I17 hb18 (by decide)
  have h0 := List.mem_cons_of_mem (22, b18) h0
  refine k0_X7 I19 List.mem_cons_self (fun S20 I20 => ?_)
  intro T21 e21 b22 T23 hb22 e23
  have I21 := iq_R (k := 2203) I20 h0 List.mem_cons_self
  rw [← e21] at I21
  subst e23
  have I23 : iq ((26, b22) :: (22, b18) :: (16, b14) :: (5, b8) :: (2, b4) :: p) 27 mc16 (kp_new T21 b22 4) := iq_N I21 hb22 (by decide)
  have h0 := List.mem_cons_of_mem (26, b22) h0
  obtain ⟨s1, J1⟩ := iq_rd (k := 2202) (j := 16) I23 h0 (by decide +kernel) (by decide +kernel)
  refine ⟨_, s1, ?_⟩
  have h0 := List.mem_cons_of_mem (16, iq_a (kp_new T21 b22 4) 16) h0
  obtain ⟨s2, J2⟩ := iq_rd (k := 2203) (j := 22) J1 h0 (by decide +kernel) (by decide +kernel)
  refine ⟨_, s2, ?_⟩
  have h0 := List.mem_cons_of_mem (22, iq_a (kp_new T21 b22 4) 22) h0
  obtain ⟨s3, J3⟩ := iq_rd (k := 2205) (j := 2) J2 h0 (by decide +kernel) (by decide +kernel)
  refine ⟨_, s3, ?_⟩
  have h0 := List.mem_cons_of_mem (2, iq_a (kp_new T21 b22 4) 2) h0
  refine k0_X4 J3 (List.mem_cons_of_mem _ (List.mem_cons_of_mem _ (List.mem_cons_of_mem _ List.mem_cons_self))) (List.mem_cons_of_mem _ (List.mem_cons_of_mem _ List.mem_cons_self)) (List.mem_cons_of_mem _ List.mem_cons_self) List.mem_cons_self (fun S27 I27 => ?_)
  intro T28 e28 T29 e29
  have I28 := iq_R (k := 2204) I27 h0 (List.mem_cons_of_mem _ (List.mem_cons_of_mem _ (List.mem_cons_of_mem _ List.mem_cons_self)))
  rw [← e28] at I28
  have I29 := iq_I (k := 2208) (v := -1) I28 h0
  rw [← e29] at I29
  refine kk T29 (iq_sub I29 (fun q hq => ?_))
  simp only [List.mem_cons, hq, or_true]
end
