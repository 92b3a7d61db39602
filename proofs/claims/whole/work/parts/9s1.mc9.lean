section
variable {p : List (Nat × Nat)} {S : kp_S} {a : Nat}
set_option maxHeartbeats 200000 in
theorem z_mem (I : iq p 476 mz S) {t k n i : Nat} (h : gx t k n = some i) : g0 S t k n ∈ kp_L S := by
  rw [g0_s h]
  have := (gx_s h).1
  exact iq_mem (by rw [I.1.1]; omega)
set_option maxHeartbeats 200000 in
theorem z_mem' (I : iq p 476 mz S) {t k n : Nat} (h : (gx t k n).isSome = true) : g0 S t k n ∈ kp_L S := by
  cases c : gx t k n with
  | none => rw [c] at h; cases h
  | some i => exact z_mem I c
set_option maxHeartbeats 200000 in
theorem z_I (I : iq p 476 mz S) {t c n i k : Nat} (h : gx t c n = some i) (hk : kp_K mz i < 13) : kp_I S k (g0 S t c n) = kp_I mz k i := by
  rw [g0_s h]
  exact (I.2.1 i (by have := (gx_s h).1; omega) hk).1 k
set_option maxHeartbeats 200000 in
theorem z_R (I : iq p 476 mz S) {t c n i k t' c' n' j : Nat} (h : gx t c n = some i) (hk : kp_K mz i < 13) (h' : gx t' c' n' = some j) (hr : kp_R mz k i = some j) : kp_R S k (g0 S t c n) = some (g0 S t' c' n') := by
  rw [g0_s h, g0_s h', (I.2.1 i (by have := (gx_s h).1; omega) hk).2 k, hr]; rfl
set_option maxHeartbeats 200000 in
theorem z_A (I : iq p 476 mz S) {t c n i : Nat} (h : gx t c n = some i) (hk : 13 ≤ kp_K mz i) : kp_N S (g0 S t c n) = kp_N mz i ∧ kp_A S (g0 S t c n) = kp_A mz i ∧ kp_B S (g0 S t c n) = kp_B mz i ∧ ∀ j, kp_C S (g0 S t c n) j = (kp_C mz i j).map (iq_a S) := by
  rw [g0_s h]
  exact I.2.2.1 i (by have := (gx_s h).1; omega) hk
set_option maxHeartbeats 200000 in
theorem z_gr (I : iq p 476 mz S) : q_gr 3 (g0 S) (kp_R S) (kp_C S) (kp_N S) := by
  obtain ⟨⟨x0, x11, x12, x10, x2, x168, x804, x806, _⟩, ⟨y0, y2, y403, y28, y29, _⟩, r5, _⟩ := ck_x
  refine ⟨fun q hq => ?_, fun k hk => ?_, fun q hq => ?_, fun i hi => ?_, fun i hi => ?_⟩
  · have h := List.all_eq_true.mp ck_ptr q hq
    unfold ck1 at h
    split at h
    · rename_i i j c1 c2
      obtain ⟨d1, d2⟩ := of_decide_eq_true h
      exact z_R I c1 d1 c2 d2
    · cases h
  · have : k = 2205 := by simpa [q_bp] using hk
    subst this
    exact z_R I x11 y0 x0 r5
  · have h := List.all_eq_true.mp ck_len q hq
    unfold ck2 at h
    split at h
    · rename_i i c1
      obtain ⟨d1, d2⟩ := of_decide_eq_true h
      rw [(z_A I c1 d1).1]; exact d2
    · cases h
  · obtain ⟨⟨g1, g2, g3⟩, c1, k1, r1, r2, k2, k3, n1, n2⟩ := ck_fr i hi
    refine ⟨?_, z_R I g1 k1 g2 r1, z_R I g1 k1 g3 r2, ?_, ?_⟩
    · rw [(z_A I x804 y28).2.2.2, c1, g0_s g1]; rfl
    · rw [(z_A I g2 k2).1]; exact n1
    · rw [(z_A I g3 k3).1]; exact n2
  · obtain ⟨⟨g1, g2⟩, c1, k1, r1⟩ := ck_pt i hi
    refine ⟨?_, z_R I g1 k1 g2 r1⟩
    rw [(z_A I x806 y29).2.2.2, c1, g0_s g1]; rfl
set_option maxHeartbeats 200000 in
theorem z_q (I : iq p 476 mz S) : q_mem (g0 S) S := by
  obtain ⟨⟨x0, x11, x12, x10, x2, x168, _⟩, _⟩ := ck_x
  refine ⟨fun k hk => z_mem' I (ck_ob k hk), fun q hq => z_mem' I (ck_le q hq), ⟨z_mem I x10, z_mem I x2⟩, fun i hi => ?_, fun i hi => ?_, fun i hi => ?_⟩
  · obtain ⟨⟨g1, g2, g3⟩, _⟩ := ck_fr i hi
    exact ⟨z_mem I g1, z_mem I g2, z_mem I g3⟩
  · exact z_mem I (ck_pt i hi).1.1
  · rcases Nat.lt_or_ge i 168 with c | c
    · exact z_mem I (ck_pt i c).1.2
    · rw [show i = 168 by omega]; exact z_mem I x168
set_option maxHeartbeats 200000 in
theorem z_LR (I : iq p 476 mz S) : LR (q_w (g0 S) S) (q_w (g0 S) S) := by
  obtain ⟨⟨x0, x11, x12, x10, x2, x168, x804, x806, x18, x24, x14⟩, ⟨y0, y2, y403, y28, y29, y7, y405, y23, _⟩, _⟩ := ck_x
  obtain ⟨i1, i2, i3, i4, i5, i6, i7, i8, i9⟩ := ck_i
  obtain ⟨t1, t2, t3, t4, t5, t6, t7, t8, t9, t10⟩ := ck_t
  have vF : ∀ k, k / 200 = 11 → q_i (q_w (g0 S) S) k = kp_I mz k 0 := fun k hk => by
    show kp_I S k (g0 S 0 (k / 200) 0) = _
    rw [hk]; exact z_I I x11 y0
  have vR : ∀ k, k / 200 = 12 → q_i (q_w (g0 S) S) k = kp_I mz k 403 := fun k hk => by
    show kp_I S k (g0 S 0 (k / 200) 0) = _
    rw [hk]; exact z_I I x12 y403
  have v3 : q_i (q_w (g0 S) S) 3 = kp_I mz 3 2 := z_I I x0 y2
  have vZ : ∀ k, k ∈ [200, 201, 202, 203, 204, 1401, 1402, 2463, 2464, 2465, 2466, 2467, 2468, 2469] → q_a (q_w (g0 S) S) k = fun _ => 0 := fun k hk => by
    obtain ⟨i, h1, h2, h3⟩ := ck_z k hk
    show kp_A S (g0 S 1 k 0) = _
    rw [(z_A I h1 h2).2.1]; exact I.2.2.2.2.2 i h3
  have vT : q_a (q_w (g0 S) S) 1400 = kp_A mz 23 := (z_A I x14 y23).2.1
  have w1 : q_b (q_w (g0 S) S) 1801 = kp_B mz 7 := (z_A I x18 y7).2.2.1
  have w2 : q_b (q_w (g0 S) S) 2403 = kp_B mz 405 := (z_A I x24 y405).2.2.1
  refine ⟨⟨0, by omega, by rw [vF 2206 rfl, i1]; rfl, by rw [vR 2402 rfl, i5]; rfl, fun j hj => absurd hj (by omega)⟩, ⟨?_, ?_⟩, ⟨?_, ?_⟩, ?_, ⟨?_, ?_⟩, Or.inl ⟨?_, ?_⟩⟩
  · rw [vF 2207 rfl, vR 2408 rfl, i2, i6]
  · rw [vF 2208 rfl, vR 2409 rfl, i3, i7]
  · unfold ru_A
    rw [vZ 200 (by decide), vZ 201 (by decide), vZ 202 (by decide), vZ 203 (by decide), vZ 204 (by decide), vZ 2463 (by decide), vZ 2464 (by decide), vZ 2465 (by decide), vZ 2466 (by decide), vZ 2467 (by decide)]
    exact ⟨rfl, rfl, rfl, rfl, rfl, fun _ _ => Or.inl rfl, fun _ _ => (by decide : ¬ (0 : Int32) < 0 ∧ (0 : Int32) ≤ 20000), fun _ _ => (by decide : ¬ (0 : Int32) < 0 ∧ (0 : Int32) ≤ 200000), fun _ _ => (by decide : ¬ (0 : Int32) < 0 ∧ (0 : Int32) ≤ 12)⟩
  · intro k _; rw [vZ 203 (by decide)]
  · unfold ru_told
    rw [vT, vR 2517 rfl, vR 2518 rfl, vR 2519 rfl, vR 2520 rfl, vR 2522 rfl, vR 2523 rfl, vR 2521 rfl, vR 2524 rfl, vR 2470 rfl, vZ 1401 (by decide), vZ 1402 (by decide), vZ 2468 (by decide), vZ 2469 (by decide)]
    refine ⟨t1, t2, t3, t4, t5, t6, t7, t8, fun k k1 k2 => ?_, t10, rfl, rfl, ?_⟩
    · rw [vR (2465 + k) (by omega)]; exact t9 k (by omega) k1
    · rw [i9]; decide
  · intro j hj; rw [w1]; exact ck_w.1 j hj
  · intro j hj; rw [w2]; exact ck_w.2 j hj
  · rw [v3, i4]; decide
  · rw [vR 2447 rfl, i8]
set_option maxHeartbeats 200000 in
theorem z_LI (I : iq p 476 mz S) : LI (g0 S) S := ⟨g0_inj I (by omega), z_gr I, z_q I, z_LR I⟩
set_option maxHeartbeats 200000 in
theorem z_LA (I : iq p 476 mz S) (h : (475, a) ∈ p) : LA (g0 S) a S := by
  obtain ⟨_, e⟩ := I.2.2.2.2.1 _ h
  have e : iq_a S 475 = a := e
  have hm : a ∈ kp_L S := by rw [← e]; exact iq_mem (by rw [I.1.1]; omega)
  obtain ⟨_, ⟨_, _, _, _, _, _, _, _, y⟩, _, nn⟩ := ck_x
  refine ⟨hm, ?_, fun t k n z => ?_⟩
  · rw [(iq_len I h y).1]; exact nn
  · cases c : gx t k n with
    | some i =>
      rw [g0_s c, ← e] at z
      have b := (gx_s c).1
      have := I.1.2 475 i (by omega) (by omega) z
      omega
    | none =>
      rw [g0_n c] at z
      have := le_sumL _ _ hm
      omega
set_option maxHeartbeats 200000 in
/-- the law, pure -/
theorem law_all (L : Nat) (xs : Nat → Int32) (hL : L ≤ 3072) : wL_law L xs kp_0 () := by
  unfold wL_law
  intro b1 T2 h1 e2
  have I0 : iq [] 0 kp_0 kp_0 := ⟨⟨rfl, fun i j h => absurd h (by omega)⟩, fun i h => absurd h (by omega), fun i h => absurd h (by omega), ⟨fun i k j h => (by cases h), fun i k j h => (by cases h)⟩, fun q h => (by cases h), fun i _ => rfl⟩
  subst e2
  have I1 : iq [(0, b1)] 1 mc1 (kp_new kp_0 b1 11) := iq_N I0 h1 (by decide)
  refine k0_X11 I1 List.mem_cons_self (fun T3 I3 => ?_)
  intro b4 T5 h4 e5
  subst e5
  have I5 : iq [(403, b4), (0, b1)] 404 mr0 (kp_new T3 b4 12) := iq_N I3 h4 (by decide)
  refine k1__init I5 List.mem_cons_self (fun T6 I6 => ?_)
  intro b7 T8 h7 e8
  subst e8
  have I8 : iq [(475, b7), (403, b4), (0, b1)] 476 mz (kp_newA T6 b7 15 1) := iq_A I6 h7 (by decide)
  have g1 : g0 (kp_newA T6 b7 15 1) 0 11 0 = b1 := by
    rw [g0_s ck_x.1.2.1]
    exact (I8.2.2.2.2.1 (0, b1) (List.mem_cons_of_mem _ (List.mem_cons_of_mem _ List.mem_cons_self))).2
  have g4 : g0 (kp_newA T6 b7 15 1) 0 12 0 = b4 := by
    rw [g0_s ck_x.1.2.2.1]
    exact (I8.2.2.2.2.1 (403, b4) (List.mem_cons_of_mem _ List.mem_cons_self)).2
  have r := law_loop (L := L) (xs := xs) hL (HRD_all (a := b7)) 512 0 (g0 (kp_newA T6 b7 15 1)) (kp_newA T6 b7 15 1) (z_LI I8) (z_LA I8 List.mem_cons_self) (by omega) (by omega)
  rw [g1, g4] at r
  exact r
end
