/-- an array made and set into a field, of the model pool -/
def aR (M : kp_S) (n c m k i : Nat) : kp_S := kp_sR (kp_newA M n c m) k i n
def mf0 (M : kp_S) (n : Nat) : kp_S := aR (aR (kp_new M n 3) (n + 1) 14 24 600 n) (n + 2) 14 40 601 n
def mf1 (M : kp_S) (n t : Nat) : kp_S := kp_sC (mf0 M n) 28 (va_up (kp_C (mf0 M n) 28) t (some n))
def mfs : Nat → Nat → Nat → kp_S → kp_S
  | 0, _, _, M => M
  | f + 1, t, n, M => mfs f (t + 1) (n + 3) (mf1 M n t)
def mp0 (M : kp_S) (n : Nat) : kp_S := kp_sR (kp_new (kp_new M n 6) (n + 1) 10) 1208 n (n + 1)
def mp1 (M : kp_S) (n t : Nat) : kp_S := kp_sC (mp0 M n) 29 (va_up (kp_C (mp0 M n) 29) t (some n))
def mps : Nat → Nat → Nat → kp_S → kp_S
  | 0, _, _, M => M
  | f + 1, t, n, M => mps f (t + 1) (n + 2) (mp1 M n t)
section
variable {p : List (Nat × Nat)} {n i j c m k x t a a0 a1 a2 a3 : Nat} {M S : kp_S} {post : kp_S → Prop}
set_option maxHeartbeats 200000 in
theorem K_aR : kp_K (aR M n c m k i) x = if x = n then c else kp_K M x := rfl
set_option maxHeartbeats 200000 in
theorem N_aR : kp_N (aR M n c m k i) x = if x = n then m else kp_N M x := rfl
set_option maxHeartbeats 200000 in
theorem R_aR {k' : Nat} : kp_R (aR M n c m k i) k' x = if k' = k ∧ x = i then some n else kp_R M k' x := rfl
set_option maxHeartbeats 200000 in
theorem iq_w {F : kp_S → Prop} (I : iq p n M S) (h : (i, a) ∈ p) (hc : 13 ≤ c) (kk : ∀ S', iq p (n + 1) (aR M n c m k i) S' → F S') : ∀ (b : Nat) (T : kp_S), b ∉ kp_L S → T = kp_newA S b c m → ∀ T' : kp_S, T' = kp_sR T k a b → F T' := by
  intro b T hb e T' e'
  subst e; subst e'
  exact kk _ (iq_AR I h hb hc)
set_option maxHeartbeats 200000 in
/-- the frames -/
theorem w_fr (h0 : (26, a0) ∈ p) : ∀ (f t n : Nat) (M S : kp_S), t + f = 12 → 30 < n → iq p n M S → kp_K M 26 < 13 → kp_R M 804 26 = some 28 → 13 ≤ kp_K M 28 → kp_N M 28 = 12 → (∀ S', iq p (n + 3 * f) (mfs f t n M) S' → wX4_init_L91 a0 a1 a2 a3 post 169 0 S') → wX4_init_L61 a0 a1 a2 a3 post (f + 1) (nI t) S := by
  intro f
  induction f with
  | zero =>
    intro t n M S e hn I k1 k2 k3 k4 kk
    rw [wX4_init_L61]
    refine ⟨fun _ => kk S I, fun z => absurd ?_ z⟩
    rw [show t = 12 by omega]; decide
  | succ f ih =>
    intro t n M S e hn I k1 k2 k3 k4 kk
    rw [wX4_init_L61]
    refine ⟨fun z => absurd z (ni_nle (a := 12) (by omega) (by omega)), fun _ => ?_⟩
    obtain ⟨r1, I1⟩ := iq_rd I h0 k1 k2
    refine ⟨_, r1, fun b T hb eT => ?_⟩
    subst eT
    have I2 := iq_N (c := 3) I1 hb (by decide)
    unfold wX3_init
    refine iq_w I2 List.mem_cons_self (by decide) (fun S3 I3 => iq_w I3 List.mem_cons_self (by decide) (fun S4 I4 => ?_))
    have m28 : (28, iq_a S 28) ∈ (n, b) :: (28, iq_a S 28) :: p := List.mem_cons_of_mem _ List.mem_cons_self
    have K28 : kp_K (mf0 M n) 28 = kp_K M 28 := by
      unfold mf0; rw [K_aR, if_neg (by omega), K_aR, if_neg (by omega), rd_K_new, if_neg (by omega)]
    have N28 : kp_N (mf0 M n) 28 = kp_N M 28 := by
      unfold mf0; rw [N_aR, if_neg (by omega), N_aR, if_neg (by omega)]; rfl
    have K26 : kp_K (mf0 M n) 26 = kp_K M 26 := by
      unfold mf0; rw [K_aR, if_neg (by omega), K_aR, if_neg (by omega), rd_K_new, if_neg (by omega)]
    have R26 : kp_R (mf0 M n) 804 26 = kp_R M 804 26 := by
      unfold mf0; rw [R_aR, if_neg (by omega), R_aR, if_neg (by omega), rd_R_new, if_neg (by omega)]
    have I4 : iq ((n, b) :: (28, iq_a S 28) :: p) (n + 3) (mf0 M n) S4 := I4
    have kd : 13 ≤ kp_K (mf0 M n) 28 := by rw [K28]; exact k3
    refine ⟨?_, fun T5 e5 y ey => ?_⟩
    · rw [(iq_len I4 m28 kd).1, N28, k4]; exact ni_nin (by omega) (by omega)
    · subst ey
      rw [ni_clamp (by omega)] at e5
      have I5 := iq_C (t := t) I4 m28 List.mem_cons_self kd
      rw [← e5] at I5
      rw [ni_add1]
      refine ih (t + 1) (n + 3) (mf1 M n t) T5 (by omega) (by omega) (iq_sub I5 (fun _ h => List.mem_cons_of_mem _ (List.mem_cons_of_mem _ h))) ?_ ?_ ?_ ?_ ?_
      · show kp_K (mf0 M n) 26 < 13
        rw [K26]; exact k1
      · show kp_R (mf0 M n) 804 26 = some 28
        rw [R26]; exact k2
      · exact kd
      · show kp_N (mf0 M n) 28 = 12
        rw [N28]; exact k4
      · rw [show n + 3 + 3 * f = n + 3 * (f + 1) by omega]; exact kk
set_option maxHeartbeats 200000 in
/-- the parts -/
theorem w_pt (h0 : (26, a0) ∈ p) : ∀ (f t n : Nat) (M S : kp_S), t + f = 168 → 30 < n → iq p n M S → kp_K M 26 < 13 → kp_R M 806 26 = some 29 → 13 ≤ kp_K M 29 → kp_N M 29 = 168 → (∀ S', iq p (n + 2 * f) (mps f t n M) S' → post S') → wX4_init_L91 a0 a1 a2 a3 post (f + 1) (nI t) S := by
  intro f
  induction f with
  | zero =>
    intro t n M S e hn I k1 k2 k3 k4 kk
    rw [wX4_init_L91]
    refine ⟨fun _ => kk S I, fun z => absurd ?_ z⟩
    rw [show t = 168 by omega]; decide
  | succ f ih =>
    intro t n M S e hn I k1 k2 k3 k4 kk
    rw [wX4_init_L91]
    refine ⟨fun z => absurd z (ni_nle (a := 168) (by omega) (by omega)), fun _ => ?_⟩
    obtain ⟨r1, I1⟩ := iq_rd I h0 k1 k2
    refine ⟨_, r1, fun b T hb eT => ?_⟩
    subst eT
    have I2 := iq_N (c := 6) I1 hb (by decide)
    unfold wX6_init wX10_init
    intro b' T' hb' eT' T4 e4
    subst eT'
    have I3 := iq_R (k := 1208) (iq_N (c := 10) I2 hb' (by decide)) (List.mem_cons_of_mem _ List.mem_cons_self) List.mem_cons_self
    rw [← e4] at I3
    have m29 : (29, iq_a S 29) ∈ (n + 1, b') :: (n, b) :: (29, iq_a S 29) :: p := List.mem_cons_of_mem _ (List.mem_cons_of_mem _ List.mem_cons_self)
    have K29 : kp_K (mp0 M n) 29 = kp_K M 29 := by
      unfold mp0; rw [rd_K_sR, rd_K_new, if_neg (by omega), rd_K_new, if_neg (by omega)]
    have N29 : kp_N (mp0 M n) 29 = kp_N M 29 := rfl
    have K26 : kp_K (mp0 M n) 26 = kp_K M 26 := by
      unfold mp0; rw [rd_K_sR, rd_K_new, if_neg (by omega), rd_K_new, if_neg (by omega)]
    have R26 : kp_R (mp0 M n) 806 26 = kp_R M 806 26 := by
      unfold mp0; rw [rd_R_sR, if_neg (by omega), rd_R_new, if_neg (by omega), rd_R_new, if_neg (by omega)]
    have I4 : iq ((n + 1, b') :: (n, b) :: (29, iq_a S 29) :: p) (n + 2) (mp0 M n) T4 := I3
    have kd : 13 ≤ kp_K (mp0 M n) 29 := by rw [K29]; exact k3
    refine ⟨?_, fun T5 e5 y ey => ?_⟩
    · rw [(iq_len I4 m29 kd).1, N29, k4]; exact ni_nin (by omega) (by omega)
    · subst ey
      rw [ni_clamp (by omega)] at e5
      have I5 := iq_C (t := t) I4 m29 (List.mem_cons_of_mem _ List.mem_cons_self) kd
      rw [← e5] at I5
      rw [ni_add1]
      refine ih (t + 1) (n + 2) (mp1 M n t) T5 (by omega) (by omega) (iq_sub I5 (fun _ h => List.mem_cons_of_mem _ (List.mem_cons_of_mem _ (List.mem_cons_of_mem _ h)))) ?_ ?_ ?_ ?_ ?_
      · show kp_K (mp0 M n) 26 < 13
        rw [K26]; exact k1
      · show kp_R (mp0 M n) 806 26 = some 29
        rw [R26]; exact k2
      · exact kd
      · show kp_N (mp0 M n) 29 = 168
        rw [N29]; exact k4
      · rw [show n + 2 + 2 * f = n + 2 * (f + 1) by omega]; exact kk
end
