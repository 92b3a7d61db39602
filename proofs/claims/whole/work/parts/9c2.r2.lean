section
variable {Fin : q_V → q_V → Prop} {a : ru_P} {T : co_T} {XL : Int32 → Int32 → Int32 → Prop} {f0 nu : Nat} {L : List (Nat × Nat)}
set_option maxHeartbeats 200000 in
theorem rs_3 {vc vr : q_V} {d : Nat} {y : Int32} (s : ru_S T vc vr) (e : co_d T 3 d y) : q_a vr 2451 d = y := by rw [s.2.2.1.2.2.2.1, e.2]
set_option maxHeartbeats 200000 in
theorem rs_4 {vc vr : q_V} {d : Nat} {y : Int32} (s : ru_S T vc vr) (e : co_d T 4 d y) : q_a vr 2452 d = y := by rw [s.2.2.1.2.2.2.2.1, e.2]
set_option maxHeartbeats 200000 in
theorem rs_5 {vc vr : q_V} {d : Nat} {y : Int32} (s : ru_S T vc vr) (e : co_d T 5 d y) : q_a vr 2453 d = y := by rw [s.2.2.1.2.2.2.2.2.1, e.2]
set_option maxHeartbeats 200000 in
theorem rs_6 {vc vr : q_V} {d : Nat} {y : Int32} (s : ru_S T vc vr) (e : co_d T 6 d y) : q_a vr 2454 d = y := by rw [s.2.2.1.2.2.2.2.2.2.1, e.2]
set_option maxHeartbeats 200000 in
theorem rs_7 {vc vr : q_V} {d : Nat} {y : Int32} (s : ru_S T vc vr) (e : co_d T 7 d y) : q_a vr 2455 d = y := by rw [s.2.2.1.2.2.2.2.2.2.2.1, e.2]
set_option maxHeartbeats 200000 in
theorem rs_8 {vc vr : q_V} {d : Nat} {y : Int32} (s : ru_S T vc vr) (e : co_d T 8 d y) : q_a vr 2456 d = y := by rw [s.2.2.1.2.2.2.2.2.2.2.2, e.2]
set_option maxHeartbeats 200000 in
theorem ni_ne {x y : Nat} (hx : x < 2147483648) (hy : y < 2147483648) (h : x ≠ y) : nI x ≠ nI y := by
  intro e; rw [ni_eq hx hy] at e; exact h e
set_option maxHeartbeats 200000 in
theorem ru_own {v w : q_V} {at_ d : Nat} (hL : ∀ e ∈ L, e.1 < at_ ∧ e.2 < d) (hat : at_ < 2147483648) (hd : d < 640) (we : ru_we ((at_, d) :: L) v w) :
    (q_f v 2000 168 = 1 ∧ q_i w 2481 = 0) ∨ (q_f v 2001 168 = nI at_ ∧ q_f v 2000 168 = 16 ∧ q_i w 2481 = 2 ∧ q_i w 2482 = nI d) ∨ (q_f v 2001 168 = nI at_ ∧ q_f v 2000 168 = 8 ∧ q_i w 2481 = 1 ∧ q_i w 2482 = nI d) ∨
    (ru_wl L v w ∧ ¬ (q_f v 2001 168 = nI at_ ∧ q_f v 2000 168 = 16) ∧ ¬ (q_f v 2001 168 = nI at_ ∧ q_f v 2000 168 = 8) ∧ ¬ (q_i w 2481 = 2 ∧ q_i w 2482 = nI d) ∧ ¬ (q_i w 2481 = 1 ∧ q_i w 2482 = nI d)) := by
  rcases we with h | h
  · exact Or.inl h
  refine Or.inr ?_
  rcases h with ⟨h1, h2, h3⟩ | ⟨h1, h2, h3⟩ | ⟨e, he, hs, h3, h4⟩
  · refine Or.inr (Or.inr ⟨Or.inl ⟨h1, h2, h3⟩, ?_, ?_, ?_, ?_⟩)
    · rw [h1]; exact fun x => absurd x.2 (by decide)
    · rw [h1]; exact fun x => absurd x.2 (by decide)
    · rw [h2]; exact fun x => absurd x.1 (by decide)
    · rw [h2]; exact fun x => absurd x.1 (by decide)
  · refine Or.inr (Or.inr ⟨Or.inr (Or.inl ⟨h1, h2, h3⟩), ?_, ?_, ?_, ?_⟩)
    · rw [h1]; exact fun x => absurd x.2 (by decide)
    · rw [h1]; exact fun x => absurd x.2 (by decide)
    · rw [h2]; exact fun x => absurd x.1 (by decide)
    · rw [h2]; exact fun x => absurd x.1 (by decide)
  · rw [List.mem_cons] at he
    rcases he with rfl | he
    · rcases hs with ⟨h1, h2⟩ | ⟨h1, h2⟩
      · exact Or.inr (Or.inl ⟨h3, h1, h2, h4⟩)
      · exact Or.inl ⟨h3, h1, h2, h4⟩
    · have hh := hL e he
      have n1 : q_f v 2001 168 ≠ nI at_ := by rw [h3]; exact ni_ne (by omega) hat (by omega)
      have n2 : q_i w 2482 ≠ nI d := by rw [h4]; exact ni_ne (by omega) (by omega) (by omega)
      exact Or.inr (Or.inr ⟨Or.inr (Or.inr ⟨e, he, hs, h3, h4⟩), fun x => n1 x.1, fun x => n1 x.1, fun x => n2 x.2, fun x => n2 x.2⟩)
set_option maxHeartbeats 200000 in
theorem rs_01_0 {v : q_V} : rs_01 0 v = some (0, v) := rfl
set_option maxHeartbeats 200000 in
theorem rs_01_1 {v : q_V} : rs_01 1 v = some (1, v) := rfl
set_option maxHeartbeats 200000 in
theorem ru_FH {c f f1 h g np t cl at_ d pn px qa qx p0 h0 q0 g0 p1 h1 q1 g1 : Nat} {vc w v0 w0 v w1 : q_V} (nx : ru_nx Fin a T XL c f1 h g np t cl d pn qa vc w) (n : ru_n Fin a T XL c f1 h g np t cl px qx vc w) (x : ru_x Fin a T XL L c f1 h g np t cl vc w) (hf : f ≤ f1)
    (hL : ∀ e ∈ L, e.1 < at_ ∧ e.2 < d) (hat : at_ < 2147483648) (hd : d < 640) (ht : t < 240) (hn : np ≤ 168) (c2 : co_c T (at_ + 2) (nI pn)) (c3 : co_c T (at_ + 3) (nI px)) (r1 : co_d T 3 d (nI qa)) (r3 : co_d T 5 d (nI qx))
    (e1 : fX4_leaveTop (mC v0 p0 h0 f (np + 1) cl) = fX4_leaveRound_b22 np (mC v p1 h1 f (np + 1) cl)) (e2 : rs_it (mR w0 q0 g0 f (t + 1) cl) = fX12_leavesLoop_b70 (nI t) (nI d) (mR w1 q1 g1 f (t + 1) cl))
    (a0 : q_i v0 814 = -1) (b0 : q_f v0 2000 168 ≠ 0) (D : ru_D T XL cl t np v w1) (z91 : q_a w1 2491 t = 0) (we : ru_we ((at_, d) :: L) v w1) (K : ru_K np t h g cl vc w v w1) (ea : q_f v 1202 np = nI at_) (eh : q_f v 1203 np = nI h)
    (g8 : q_a w1 2488 t = 3) (g9 : q_a w1 2490 t = nI d) (eg : q_a w1 2492 t = nI g) (gb : q_b w1 2493 t = q_b w 2493 t ∧ q_b w1 2494 t = q_b w 2494 t) (hl : ru_l v ≤ ru_l v0 + 2) (hv : ∀ i, q_f v 602 i = q_f v0 602 i) :
    ru_L Fin a (40000 * f + c + 1) (mC v0 p0 h0 f (np + 1) cl) (mR w0 q0 g0 f (t + 1) cl) := by
  rw [cs_b22 D.1 ea c2 c3] at e1
  rw [rs_b70 hd ht (rs_3 D.1 r1) (rs_5 D.1 r3) eg] at e2
  have be0 : ∀ k m, q_f (q_sf (ru_be v 1 0) 2000 168 0) k m = if (k = 2000 ∨ k = 2001) ∧ m = 168 then 0 else q_f v k m := by
    intro k m
    unfold ru_be
    by_cases z1 : k = 2000 ∧ m = 168
    · rw [q_f_sf, if_pos z1, if_pos ⟨Or.inl z1.1, z1.2⟩]
    · rw [q_f_sf, if_neg z1]
      by_cases z2 : k = 2001 ∧ m = 168
      · rw [q_f_sf, if_pos z2, if_pos ⟨Or.inr z2.1, z2.2⟩]
      · rw [q_f_sf, if_neg z2, q_f_sf, if_neg z1, if_neg (by omega)]
  have rg : ru_rgn t d g (q_si (ru_s w1 t 0) 2481 0) := by
    unfold ru_rgn
    rw [q_a_si, s_a (by omega), s_at, s_a (by omega), s_a (by omega), s_a (by omega)]
    exact ⟨g8, rfl, g9, z91, eg⟩
  rcases ru_own hL hat hd we with ⟨w2, w3⟩ | ⟨k1, k2, k3, k4⟩ | ⟨k1, k2, k3, k4⟩ | ⟨wl, k1, k2, k3, k4⟩
  · rw [if_neg (by rw [w2]; exact fun x => absurd x.2 (by decide)), if_neg (by rw [w2]; exact fun x => absurd x.2 (by decide)), cs_leave1 w2 eh] at e1
    rw [if_pos (Or.inl w3)] at e2
    refine ru_clL e1 a0 b0 ⟨hl, Nat.le_of_eq (ru_w_e (fun i => ?_))⟩ (ru_lz e2 rfl (by omega) (nx f _ _ (ru_D_t1 (ru_D_f (ru_D_j (ru_D_s9 D) (by omega) (by omega)) (by omega)) ?_) ⟨rfl, rfl⟩ hf (ru_K_f (ru_K_j (ru_K_s9 K (Nat.le_refl _))) hn (by omega)) rg gb))
    · rw [q_f_sf, if_neg (by omega)]; exact hv i
    · rw [q_a_si, s_a (by omega)]; exact z91
  · rw [if_pos ⟨k1, k2⟩, cs_leave1 (v := ru_be v 1 0) rfl (by unfold ru_be; rw [q_f_sf, if_neg (by omega), q_f_sf, if_neg (by omega)]; exact eh)] at e1
    rw [if_pos (Or.inr ⟨k3, k4⟩)] at e2
    refine ru_clL e1 a0 b0 ⟨hl, Nat.le_of_eq (ru_w_e (fun i => ?_))⟩ (ru_lz e2 rfl (by omega) (nx f _ _ (ru_D_t1 (ru_D_f (ru_D_be (ru_D_j (ru_D_s9 D) (by omega) (by omega))) (by omega)) ?_) ⟨rfl, rfl⟩ hf (ru_K_f (ru_K_be (ru_K_j (ru_K_s9 K (Nat.le_refl _))) hn) hn (by omega)) rg gb))
    · rw [be0, if_neg (by omega)]; exact hv i
    · rw [q_a_si, s_a (by omega)]; exact z91
  · rw [if_neg (by rw [k2]; exact fun x => absurd x.2 (by decide)), if_pos ⟨k1, k2⟩, cs_leave1 (v := ru_be v 1 0) rfl (by unfold ru_be; rw [q_f_sf, if_neg (by omega), q_f_sf, if_neg (by omega)]; exact eh)] at e1
    rw [if_neg (by rw [k3]; exact fun x => x.elim (by decide) (fun y => absurd y.1 (by decide))), if_pos ⟨k3, k4⟩, rs_closes1 (v := q_si w1 2481 0) ht rfl eg, q_bd_s, rs_01_0] at e2
    refine ru_clL e1 a0 b0 ⟨hl, Nat.le_of_eq (ru_w_e (fun i => ?_))⟩ (ru_lz e2 rfl (by omega) (n f _ _ (ru_D_f (ru_D_be (ru_D_j (ru_D_j D (by omega) (by omega)) (by omega) (by omega))) (by omega)) ⟨rfl, rfl⟩ hf (ru_K_f (ru_K_be (ru_K_j (ru_K_j K)) hn) hn (by omega))))
    rw [be0, if_neg (by omega)]; exact hv i
  · have w2 := ru_wl_c wl
    rw [if_neg k1, if_neg k2, cs_leave2 w2.2.1] at e1
    rw [if_neg (fun x => x.elim w2.2.2 k3), if_neg k4, rs_closes2 w2.2.2, q_bd_s, rs_01_1] at e2
    exact ru_clL e1 a0 b0 ⟨hl, Nat.le_of_eq (ru_w_e hv)⟩ (ru_le e2 (t := t + 1) (t1 := t) rfl rfl (by omega) (by omega) (x f _ _ _ _ _ _ D wl hf K))
end
