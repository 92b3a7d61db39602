/-- the reference notes a call -/
def rcn (x1 xn2 : Int32) (T1003 : q_V) : Option q_V :=
  q_lt (q_si T1003 2425 1) (fun T1005 =>
  if (x1) < 0 ∨ 3002 ≤ (x1).toNatClampNeg then none else
  if (q_i T1005 2438) < 0 ∨ 1600 ≤ (q_i T1005 2438).toNatClampNeg then none else
  q_lt (q_sb T1005 2434 ((vp_updL (q_b T1005 2434) ((q_i T1005 2438).toNatClampNeg) (q_b T1005 2406 x1.toNatClampNeg)))) (fun T1008 =>
  if (q_i T1008 2438) < 0 ∨ 1600 ≤ (q_i T1008 2438).toNatClampNeg then none else
  q_lt (q_sa T1008 2435 ((upd (q_a T1008 2435) ((q_i T1008 2438).toNatClampNeg) x1))) (fun T1010 =>
  if (q_i T1010 2438) < 0 ∨ 1600 ≤ (q_i T1010 2438).toNatClampNeg then none else
  q_lt (q_sa T1010 2436 ((upd (q_a T1010 2436) ((q_i T1010 2438).toNatClampNeg) xn2))) (fun T1012 =>
  q_bd (fX12_emit 19 ((- 1)) xn2 T1012) (fun y1015 T1014 =>
  if (q_i T1012 2438) < 0 ∨ 1600 ≤ (q_i T1012 2438).toNatClampNeg then none else
  q_lt (q_sa T1014 2437 ((upd (q_a T1014 2437) ((q_i T1012 2438).toNatClampNeg) y1015))) (fun T1016 =>
  q_lt (q_si T1016 2438 (((q_i T1016 2438) + 1))) (fun T1017 =>
  some T1017)))))))
section
variable {g : rd_G} {i n p i' n' q d k s l b e e' : Nat} {C : Nat → Int32} {r : Int32} {R : Nat → Nat → Int32} {K : rd_K} {A : rd_A} {v w : q_V}
set_option maxHeartbeats 200000 in
theorem rcn_b32 {U N : q_V → Option q_V} {x1 xn2 : Int32} : fX12_call_b32 U N x1 xn2 w = q_bv (fX12_takeSign 41 w) (fun T1001 => q_lt (q_si T1001 2411 (q_i T1001 2411 - 1)) (fun T1002 => q_bd (fX12_fine T1002) (fun y1004 T1003 => if y1004 = 0 then some T1003 else rcn x1 xn2 T1003))) := rfl
set_option maxHeartbeats 200000 in
theorem fd_s {x : Int64} : ∀ n d, (fd g x n d < d + n → d ≤ fd g x n d ∧ gn g (fd g x n d) = x) ∧ fd g x n d ≤ d + n ∧ (∀ m, d ≤ m → m < fd g x n d → gn g m ≠ x) := by
  intro n
  induction n with
  | zero => intro d; rw [fd]; exact ⟨fun h => absurd h (by omega), by omega, fun m h1 h2 => absurd h1 (by omega)⟩
  | succ n ih =>
    intro d
    rw [fd]
    by_cases c : gn g d = x
    · rw [if_pos c]; exact ⟨fun _ => ⟨Nat.le_refl _, c⟩, by omega, fun m h1 h2 => absurd h1 (by omega)⟩
    · rw [if_neg c]
      obtain ⟨h1, h2, h3⟩ := ih (d + 1)
      refine ⟨fun h => ⟨by have := (h1 (by omega)).1; omega, (h1 (by omega)).2⟩, by omega, fun m h4 h5 => ?_⟩
      by_cases z : m = d
      · rw [z]; exact c
      · exact h3 m (by omega) h5
set_option maxHeartbeats 200000 in
/-- the class looks a duty up -/
theorem c_duty {x : Int64} (h2 : q_i v 1002 = nI (gd g)) (hd : gd g ≤ 300) (ht : ∀ d, d < gd g → q_b v 1000 d = gn g d) : fX5_dutyNamed x v = some (if fdn g x < gd g then nI (fdn g x) else -1, v) := by
  suffices H : ∀ n d N, d + n = gd g → n < N → fX5_dutyNamed_L2 x N (nI d) v = some (if fd g x n d < gd g then nI (fd g x n d) else -1, v) from
    H (gd g) 0 q_N (by omega) (by unfold q_N; omega)
  intro n
  induction n with
  | zero =>
    intro d N hj hN
    obtain ⟨N, rfl⟩ : ∃ k, N = k + 1 := ⟨N - 1, by omega⟩
    rw [fX5_dutyNamed_L2, h2, if_pos (ni_ple (by omega) (by omega)), fd, if_neg (by omega)]; rfl
  | succ n ih =>
    intro d N hj hN
    obtain ⟨N, rfl⟩ : ∃ k, N = k + 1 := ⟨N - 1, by omega⟩
    rw [fX5_dutyNamed_L2, h2, if_neg (ni_nle (by omega) (by omega)), if_neg (show ¬ (300 : Int32) ≤ nI d from ni_nle (a := 300) (by omega) (by omega)), if_neg (ni_nin (by omega) (by omega)), ni_clamp (by omega), lg_if, q_lt_s, ni_add1, ht d (by omega), fd]
    by_cases z : gn g d = x
    · rw [if_pos z, if_pos z, if_pos (by omega)]
    · rw [if_neg z, if_neg z]
      exact ih (d + 1) N (by omega) (by omega)
set_option maxHeartbeats 200000 in
theorem sK_u {R0 : Nat → Int32} {w' : q_V} : ∀ {K : rd_K}, (∀ j, j < K.length → q_b w' 2434 j = q_b w 2434 j ∧ q_a w' 2435 j = q_a w 2435 j ∧ q_a w' 2436 j = q_a w 2436 j ∧ q_a w' 2437 j = q_a w 2437 j) → sK g q R0 w K → sK g q R0 w' K := by
  intro K
  induction K with
  | nil => exact fun _ _ => trivial
  | cons e t ih =>
    intro hh h
    refine ⟨?_, ih (fun j hj => hh j (by simp only [List.length_cons]; omega)) h.2⟩
    obtain ⟨h1, h2, h3, h4⟩ := hh t.length (by simp only [List.length_cons]; omega)
    rw [h1, h2, h3, h4]; exact h.1
set_option maxHeartbeats 200000 in
theorem r_cb {x : Int64} (h : St g i n p C i' n' q d r R K k s l b A e e' v w) : St g i n p C i' n' q d r R K k s l b A e e' v (q_sb w 2434 (vp_updL (q_b w 2434) K.length x)) := by
  obtain ⟨f, F, t, B, Y, N, M⟩ := h
  refine ⟨f, rdF_b F (by omega), t, B, ⟨Y.1, Y.2.1, sK_u (w := w) (fun j hj => ?_) Y.2.2.1, Y.2.2.2⟩, ?_, M⟩
  · rw [q_b_sb, if_pos rfl]
    unfold vp_updL
    rw [if_neg (by omega)]; exact ⟨rfl, rfl, rfl, rfl⟩
  · unfold sN at N ⊢
    rw [q_i_sb, q_a_sb, q_b_sb, if_neg (by omega), q_b_sb, if_neg (by omega)]; exact N
set_option maxHeartbeats 200000 in
theorem r_ca {j : Nat} {x : Int32} (h : St g i n p C i' n' q d r R K k s l b A e e' v w) (hj : j = 2435 ∨ j = 2436 ∨ j = 2437) : St g i n p C i' n' q d r R K k s l b A e e' v (q_sa w j (upd (q_a w j) K.length x)) := by
  obtain ⟨f, F, t, B, Y, N, M⟩ := h
  refine ⟨f, rdF_a F (by omega), t, B, ⟨Y.1, fun m hm => ?_, sK_u (w := w) (fun m hm => ⟨rfl, ?_, ?_, ?_⟩) Y.2.2.1, Y.2.2.2⟩, sN_ra N (by omega) (by omega), M⟩
  · have := rdj_b hm
    rw [q_a_sa, if_neg (by omega)]; exact Y.2.1 m hm
  · rw [q_a_sa]
    by_cases c : 2435 = j
    · rw [if_pos c, upd_ne (by omega), c]
    · rw [if_neg c]
  · rw [q_a_sa]
    by_cases c : 2436 = j
    · rw [if_pos c, upd_ne (by omega), c]
    · rw [if_neg c]
  · rw [q_a_sa]
    by_cases c : 2437 = j
    · rw [if_pos c, upd_ne (by omega), c]
    · rw [if_neg c]
set_option maxHeartbeats 200000 in
theorem r_emit_fr {o a c y : Int32} {w' : q_V} (h : fX12_emit o a c w = some (y, w')) : (∀ j, 2416 < j → q_a w' j = q_a w j) ∧ q_b w' = q_b w := by
  unfold fX12_emit at h
  simp only [q_lt_s] at h
  split at h
  · exact absurd h (by simp)
  · split at h
    · exact absurd h (by simp)
    · split at h
      · exact absurd h (by simp)
      · have := (Prod.mk.inj (Option.some.inj h)).2
        subst this
        refine ⟨fun j hj => ?_, rfl⟩
        rw [q_a_si, q_a_sa, if_neg (by omega), q_a_sa, if_neg (by omega), q_a_sa, if_neg (by omega)]
set_option maxHeartbeats 200000 in
/-- a call's name: the class asks which duty, the reference notes it -/
theorem j_call {t m : Nat} (ok : rd_ok g) (h : St g i n p C i' n' q d r R K k s l b A e e' v w) (ht : t ≤ gm g) (hn : tkc g t = 259) (hm2 : m < 2147483648) (hq : q < 4000) (hK : K.length < 1600) : ∃ y v' w', fX5_callee (tkw g t) (nI (tka g t)) (nI m) v = some (y, v') ∧ rcn (nI t) (nI m) w = some w' ∧ St g i n p C i' n' (q + 1) d 1 (rE R q 19 (-1) (nI m)) ((tkw g t, t, m, q) :: K) k s l b A (min e (bv g (tkw g t, t, m, q))) e' v' w' ∧ (bv g (tkw g t, t, m, q) = rd_N → fdn g (tkw g t) < gd g ∧ gp g (fdn g (tkw g t)) = nI m ∧ y = nI (fdn g (tkw g t))) := by
  have hL := ok.1
  have ha := tka_L ok t
  have hm := ok.2.2.1.2.2
  have hN : rd_N = 1000000 := rfl
  have hgd := ok.2.2.2.1
  obtain ⟨d1, d2⟩ := ok.2.2.2.2.2.2.1
  have f := h.1
  have h2 : q_i v 1002 = nI (gd g) := (f.1 1002 (by omega)).trans d1
  have h3 : ∀ x, x < gd g → q_b v 1000 x = gn g x ∧ q_a v 1001 x = gp g x := fun x hx => by
    rw [(f.2.2.1 1000 (by omega)).2, (f.2.2.1 1001 (by omega)).1]; exact d2 x hx
  obtain ⟨y, v', a1, a2, a3, a4⟩ : ∃ y v', fX5_callee (tkw g t) (nI (tka g t)) (nI m) v = some (y, v') ∧ bl 1011 1012 (min e (bv g (tkw g t, t, m, q))) v' ∧ (v' = v ∨ ∃ z z', v' = q_si (q_si v 1011 z) 1012 z') ∧ (bv g (tkw g t, t, m, q) = rd_N → fdn g (tkw g t) < gd g ∧ gp g (fdn g (tkw g t)) = nI m ∧ y = nI (fdn g (tkw g t))) := by
    unfold fX5_callee fX5_callee_b20 fX5_callee_b47
    rw [c_duty h2 hgd (fun x hx => (h3 x hx).1), q_bd_s]
    unfold bv
    simp only
    have hM := h.2.2.2.2.2.2.1
    by_cases c : fdn g (tkw g t) < gd g
    · rw [if_pos c, if_pos c, if_neg (by rw [ni_neg (by omega)]; exact not_false), if_pos (show nI (fdn g (tkw g t)) < 300 from ni_plt (b := 300) (by omega) (by omega)), if_neg (ni_nin (by omega) (by omega)), ni_clamp (by omega), (h3 _ c).2]
      by_cases c2 : gp g (fdn g (tkw g t)) = nI m
      · rw [if_pos c2, if_pos c2]
        have := bl_le hM
        refine ⟨_, v, rfl, ?_, Or.inl rfl, fun _ => ⟨c, c2, rfl⟩⟩
        rw [show min e rd_N = e by omega]; exact hM
      · rw [if_neg c2, if_neg c2]
        obtain ⟨v', x1, x2, x3⟩ := c_blm (x := 7) (y := tka g t) hM (by omega) (by omega) (by omega)
        rw [show (7 : Int32) = nI 7 from rfl, x1, q_bv_s]
        refine ⟨_, v', rfl, x2, ?_, fun z => absurd z (by omega)⟩
        rcases x3 with x3 | x3
        · exact Or.inl x3
        · exact Or.inr ⟨_, _, x3⟩
    · rw [if_neg c, if_neg c, if_pos (by decide)]
      obtain ⟨v', x1, x2, x3⟩ := c_blm (x := 5) (y := tka g t) hM (by omega) (by omega) (by omega)
      rw [show (5 : Int32) = nI 5 from rfl, x1, q_bv_s]
      refine ⟨_, v', rfl, x2, ?_, fun z => absurd z (by omega)⟩
      rcases x3 with x3 | x3
      · exact Or.inl x3
      · exact Or.inr ⟨_, _, x3⟩
  have cB : rdf (gv g) v' ∧ sT g i n v' ∧ sB p C v' ∧ sN k s l b e A v' w := by
    rcases a3 with a3 | ⟨z, z', a3⟩
    · exact c_B (x := 0) (y := 0) h (Or.inl a3)
    · exact c_B h (Or.inr a3)
  -- the reference
  have kl : q_i w 2438 = nI K.length := h.2.2.2.2.1.1.2.2.2.2.2.1
  have s1 := r_cb (x := q_b (q_si w 2425 1) 2406 t) (r_risk (x := 1) h)
  have s2 := r_ca (j := 2435) (x := nI t) s1 (Or.inl rfl)
  have s3 := r_ca (j := 2436) (x := nI m) s2 (Or.inr (Or.inl rfl))
  obtain ⟨w4, b1, s4⟩ := r_emit (o := 19) (a := -1) (c := nI m) s3 hq
  have s5 := r_ca (j := 2437) (x := nI q) s4 (Or.inr (Or.inr rfl))
  have hin : ¬ (nI K.length < 0 ∨ 1600 ≤ (nI K.length).toNatClampNeg) := ni_nin hK (by omega)
  have hcl : (nI K.length).toNatClampNeg = K.length := ni_clamp (by omega)
  have k4 : q_i w4 2438 = nI K.length := s4.2.2.2.2.1.1.2.2.2.2.2.1
  have er : rcn (nI t) (nI m) w = some (q_si (q_sa w4 2437 (upd (q_a w4 2437) K.length (nI q))) 2438 (nI (K.length + 1))) := by
    unfold rcn
    rw [q_lt_s, if_neg (ni_nin (by omega) (by omega)), q_i_ne (by omega), kl, if_neg hin, hcl, ni_clamp (by omega), q_lt_s, q_i_sb, q_i_ne (by omega), kl, if_neg hin, hcl, q_lt_s, q_i_sa, q_i_sb, q_i_ne (by omega), kl, if_neg hin, hcl, q_lt_s, b1, q_bd_s, q_i_sa, q_i_sa, q_i_sb, q_i_ne (by omega), kl, if_neg hin, hcl, q_lt_s, q_lt_s, q_i_sa, k4, ni_add1]
  refine ⟨y, v', _, a1, er, ?_, a4⟩
  obtain ⟨f5, F5, t5, B5, Y5, N5, M5⟩ := s5
  have hb3 : q_b (q_sa w4 2437 (upd (q_a w4 2437) K.length (nI q))) 2434 K.length = tkw g t ∧ q_a (q_sa w4 2437 (upd (q_a w4 2437) K.length (nI q))) 2435 K.length = nI t ∧ q_a (q_sa w4 2437 (upd (q_a w4 2437) K.length (nI q))) 2436 K.length = nI m ∧ q_a (q_sa w4 2437 (upd (q_a w4 2437) K.length (nI q))) 2437 K.length = nI q := by
    have fr4 := r_emit_fr b1
    rw [q_b_sa, q_a_sa, if_neg (by omega), q_a_sa, if_neg (by omega), q_a_sa, if_pos rfl, upd_at]
    refine ⟨?_, ?_, ?_, rfl⟩
    · rw [fr4.2, q_b_sa, q_b_sa, q_b_sb, if_pos rfl]; unfold vp_updL; rw [if_pos rfl, q_b_si]; exact r_name ok h ht hn
    · rw [fr4.1 2435 (by omega), q_a_sa, if_neg (by omega), q_a_sa, if_pos rfl, upd_at]
    · rw [fr4.1 2436 (by omega), q_a_sa, if_pos rfl, upd_at]
  refine ⟨cB.1, rdF_i F5 (by omega), cB.2.1, cB.2.2.1, ?_, ?_, a2, ?_, ?_⟩
  · unfold sR at Y5 ⊢
    rw [q_i_ne (by omega), q_i_ne (by omega), q_i_ne (by omega), q_i_ne (by omega), q_i_ne (by omega), q_i_at, q_i_ne (by omega), q_a_si]
    exact ⟨⟨Y5.1.1, Y5.1.2.1, Y5.1.2.2.1, Y5.1.2.2.2.1, Y5.1.2.2.2.2.1, rfl, Y5.1.2.2.2.2.2.2⟩, Y5.2.1, ⟨⟨hb3, ht, Nat.lt_succ_self _, upd_at .., fun c hc => (sK_lt h.2.2.2.2.1.2.2.1 c hc).1⟩, sK_i Y5.2.2.1⟩, Y5.2.2.2⟩
  · have hN5 : sN k s l b e A v' (q_si (q_sa w4 2437 (upd (q_a w4 2437) K.length (nI q))) 2438 (nI (K.length + 1))) := by
      refine sN_ri ?_ (by omega)
      rcases a3 with a3 | ⟨z, z', a3⟩
      · rw [a3]; exact N5
      · rw [a3]; exact sN_ci (sN_ci N5 (by omega)) (by omega)
    exact sN_m hN5 (by omega) (bl_le h.2.2.2.2.2.2.1)
  · have := M5.2.1
    unfold br at this ⊢
    rw [q_i_ne (by omega), q_i_ne (by omega), q_i_ne (by omega)]; exact this
  · have := h.2.2.2.2.2.2.2.2
    rw [rdP]; omega
end
