/-- views that differ in what the reference blames, at most -/
def sb2 (w w' : q_V) : Prop := ∃ a b, w' = q_si (q_si w 2412 a) 2413 b
section
variable {g : rd_G} {i n p i' n' q d k s l b e e' : Nat} {C : Nat → Int32} {r : Int32} {R : Nat → Nat → Int32} {K : rd_K} {A : rd_A} {v w w1 w2 : q_V}
set_option maxHeartbeats 200000 in
theorem sb2_0 : sb2 w w := ⟨q_i w 2412, q_i w 2413, by rw [q_si_id, q_si_id]⟩
set_option maxHeartbeats 200000 in
theorem q_si_2 {a b a' b' : Int32} : q_si (q_si (q_si (q_si w 2412 a) 2413 b) 2412 a') 2413 b' = q_si (q_si w 2412 a') 2413 b' := by
  unfold q_si
  congr 1
  funext j
  unfold q_i
  dsimp only
  by_cases c : j = 2413
  · simp only [if_pos c]
  · by_cases c2 : j = 2412
    · simp only [if_neg c, if_pos c2]
    · simp only [if_neg c, if_neg c2]
set_option maxHeartbeats 200000 in
theorem sb2_t (h : sb2 w w1) (h2 : sb2 w1 w2) : sb2 w w2 := by
  obtain ⟨a, b, rfl⟩ := h
  obtain ⟨a', b', rfl⟩ := h2
  exact ⟨a', b', q_si_2⟩
set_option maxHeartbeats 200000 in
theorem sb2_o {x y : Int32} (h : w1 = w ∨ w1 = q_si (q_si w 2412 x) 2413 y) : sb2 w w1 := by
  rcases h with h | h
  · rw [h]; exact sb2_0
  · exact ⟨x, y, h⟩
set_option maxHeartbeats 200000 in
theorem sb2_e {E : Nat} (h : sb2 w w1) (h2 : sb2 w w2) (b1 : br E w1) (b2 : br E w2) (hE : E < rd_N) : w1 = w2 := by
  obtain ⟨a, b, rfl⟩ := h
  obtain ⟨a', b', rfl⟩ := h2
  rcases b1 with b1 | b1
  · omega
  · rcases b2 with b2 | b2
    · omega
    · have e1 := b1.2.2.1
      have e2 := b1.2.2.2
      have e3 := b2.2.2.1
      have e4 := b2.2.2.2
      rw [q_i_ne (by omega), q_i_at] at e1 e3
      rw [q_i_at] at e2 e4
      rw [e1, e2, e3, e4]
set_option maxHeartbeats 200000 in
theorem sb2_i {j : Nat} (h : sb2 w w1) (hj : j ≠ 2412 ∧ j ≠ 2413) : q_i w1 j = q_i w j := by
  obtain ⟨a, b, rfl⟩ := h
  rw [q_i_ne hj.2, q_i_ne hj.1]
set_option maxHeartbeats 200000 in
theorem sb2_r (h : sb2 w w1) : q_a w1 = q_a w ∧ q_b w1 = q_b w := by
  obtain ⟨a, b, rfl⟩ := h
  exact ⟨rfl, rfl⟩
/-- what the reference does with a parameter's name -/
def parT (x : Int32) (w : q_V) : Option q_V := q_bd (fX12_known (q_b w 2406 x.toNatClampNeg) w) (fun y7 T6 => if y7 = (-1) then fX12_parameter_b38 x T6 else q_bv (fX12_bad 4 x T6) (fun T8 => fX12_parameter_b38 x T8))
set_option maxHeartbeats 200000 in
theorem par_pre {t : Nat} (ok : rd_ok g) (h : St g i n p C i' n' q d r R K k s l b A e e' v w) (ht : t ≤ gm g) : ∃ w1 e1', parT (nI t) w = fX12_parameter_b38 (nI t) w1 ∧ fX12_tell (nI t) w = fX12_tell_b20 (nI t) w1 ∧ sb2 w w1 ∧ br e1' w1 ∧ (e1' = e' ∨ e1' = min e' (16 * tka g t + 4)) ∧ (∀ u, sb2 w u → ∀ e2', br e2' u → ∃ u1 f1', fX12_tell (nI t) u = fX12_tell_b20 (nI t) u1 ∧ sb2 u u1 ∧ br f1' u1 ∧ ((e1' = e' ∧ f1' = e2') ∨ (e1' = min e' (16 * tka g t + 4) ∧ f1' = min e2' (16 * tka g t + 4)))) := by
  have hm := ok.2.2.1.2.2
  have hN : rd_N = 1000000 := rfl
  have htL := tka_L ok t
  have hL := ok.1
  have N := h.2.2.2.2.2.1
  have hpl := r_place ok h ht
  have h0 := h.2.2.2.2.1.1.1
  have hin : ¬ (nI t < 0 ∨ 3002 ≤ (nI t).toNatClampNeg) := ni_nin (by omega) (by omega)
  have mc : (nI t).toNatClampNeg = t := ni_clamp (by omega)
  obtain ⟨y', b1, _⟩ := r_find (x := q_b w 2406 t) N.1.2.2.1 (by have := N.1.2.2.2; omega)
  have kn : ∀ u, sb2 w u → fX12_known (q_b u 2406 t) u = some (y', u) := by
    intro u hu
    have e1 : ∀ N j u, q_a u = q_a w → q_b u = q_b w → ∀ y, fX12_known_L7 (q_b w 2406 t) N j w = some (y, w) → fX12_known_L7 (q_b w 2406 t) N j u = some (y, u) := by
      intro N
      induction N with
      | zero => intro j u _ _ y h; cases h
      | succ N ih =>
        intro j u ha hb y h
        rw [fX12_known_L7] at h ⊢
        rw [ha, hb]
        by_cases c : j < 0
        · rw [if_pos c] at h ⊢
          rw [(Prod.mk.inj (Option.some.inj h)).1]
        · rw [if_neg c] at h ⊢
          by_cases c2 : j < 0 ∨ 1600 ≤ j.toNatClampNeg
          · rw [if_pos c2] at h; cases h
          · rw [if_neg c2] at h ⊢
            by_cases c3 : lg_cmp (q_b w 2439 j.toNatClampNeg) (q_b w 2406 t) = 0
            · rw [if_pos c3, if_neg c2] at h ⊢
              rw [(Prod.mk.inj (Option.some.inj h)).1]
            · rw [if_neg c3, q_lt_s] at h ⊢
              exact ih _ u ha hb y h
    obtain ⟨a1, a2⟩ := sb2_r hu
    rw [a2]
    unfold fX12_known at b1 ⊢
    rw [q_lt_s] at b1 ⊢
    rw [sb2_i hu (by omega)]
    exact e1 _ _ u a1 a2 _ b1
  by_cases c : y' = -1
  · refine ⟨w, e', ?_, ?_, sb2_0, h.2.2.2.2.2.2.2.1, Or.inl rfl, fun u hu e2' hb => ⟨u, e2', ?_, sb2_0, hb, Or.inl ⟨rfl, rfl⟩⟩⟩
    · unfold parT; rw [mc, kn w sb2_0, q_bd_s, if_pos c]
    · unfold fX12_tell; rw [if_neg hin, mc, kn w sb2_0, q_bd_s, if_pos c]
    · unfold fX12_tell; rw [if_neg hin, mc, kn u hu, q_bd_s, if_pos c]
  · obtain ⟨w1, x1, x2, x3⟩ := r_blm (g := g) (x := 4) h.2.2.2.2.2.2.2.1 h0 (t := t) (by omega) hpl (by omega) (by omega) (by omega)
    refine ⟨w1, _, ?_, ?_, sb2_o x3, x2, Or.inr rfl, fun u hu e2' hb => ?_⟩
    · unfold parT; rw [mc, kn w sb2_0, q_bd_s, if_neg c, show (4 : Int32) = nI 4 from rfl, x1, q_bv_s]
    · unfold fX12_tell; rw [if_neg hin, mc, kn w sb2_0, q_bd_s, if_neg c, show (4 : Int32) = nI 4 from rfl, x1, q_bv_s]
    · obtain ⟨u1, y1, y2, y3⟩ := r_blm (g := g) (x := 4) hb ((sb2_i hu (by omega)).trans h0) (t := t) (by omega) (by rw [(sb2_r hu).1]; exact hpl) (by omega) (by omega) (by omega)
      refine ⟨u1, _, ?_, sb2_o y3, y2, Or.inr ⟨rfl, rfl⟩⟩
      unfold fX12_tell; rw [if_neg hin, mc, kn u hu, q_bd_s, if_neg c, show (4 : Int32) = nI 4 from rfl, y1, q_bv_s]
set_option maxHeartbeats 200000 in
/-- a parameter is told to both -/
theorem j_par {t : Nat} (ok : rd_ok g) (h : St g i n p C i' n' q d r R K k s l b A e e' v w) (ht : t ≤ gm g) (hc : tkc g t = 259) (o : ov g t s e e') (hs : s < 1600) : ∃ v' w' e1 e1', fX5_tellParameter (tkw g t) (nI (tka g t)) v = some v' ∧ parT (nI t) w = some w' ∧ St g i n p C i' n' q d r R K (k + 1) (s + 1) l b (A.1, A.2.1, A.2.2.1, upN A.2.2.2 k (tkw g t, s)) e1 e1' v' w' ∧ e1 ≤ e ∧ e1' ≤ e' ∧ (e1 = rd_N → s < 8) ∧ (24 < s + 1 → e1 ≤ 16 * tka g t + 8 ∧ e1' ≤ 16 * tka g t + 8) := by
  have hm := ok.2.2.1.2.2
  have hN : rd_N = 1000000 := rfl
  have htL := tka_L ok t
  have hL := ok.1
  have N := h.2.2.2.2.2.1
  have hin : ¬ (nI t < 0 ∨ 3002 ≤ (nI t).toNatClampNeg) := ni_nin (by omega) (by omega)
  obtain ⟨w1, e1', p1, p2, p3, p4, p5, p6⟩ := par_pre ok h ht
  have s42 : ∀ u, sb2 w u → q_i u 2442 = nI s := fun u hu => (sb2_i hu (by omega)).trans N.1.2.1
  -- what stands behind both
  have know : ∀ u y u', fX12_tell_b36 (nI t) u = some (y, u') → fX12_parameter_b54 (nI t) u = some u' := by
    intro u y u' hh
    unfold fX12_tell_b36 at hh
    unfold fX12_parameter_b54
    rw [if_neg hin] at hh ⊢
    cases hk : fX12_know (q_b u 2406 (nI t).toNatClampNeg) u with
    | none => rw [hk] at hh; cases hh
    | some z =>
      obtain ⟨z1, z2⟩ := z
      rw [hk, q_bd_s] at hh
      rw [q_bd_s]
      rw [(Prod.mk.inj (Option.some.inj hh)).2]
  unfold fX5_tellParameter fX5_tellParameter_b16
  rw [N.1.1]
  by_cases c8 : s < 8
  · obtain ⟨v', w', f1, f1', t1, t2, t3, t4, t5, t6, t7⟩ := j_tell ok h ht hc o hs
    rw [if_pos (show nI s < 8 from ni_plt (b := 8) c8 (by omega)), t1, q_bd_s]
    refine ⟨v', w', f1, f1', rfl, ?_, t3, t4, t5, fun _ => c8, t7⟩
    rw [p2] at t2
    unfold fX12_tell_b20 at t2
    rw [s42 w1 p3, if_pos (show nI s < 24 from ni_plt (b := 24) (by omega) (by omega))] at t2
    rw [p1]
    unfold fX12_parameter_b38
    rw [s42 w1 p3, if_pos (show nI s < 8 from ni_plt (b := 8) c8 (by omega))]
    exact know _ _ _ t2
  · rw [if_neg (show ¬ nI s < 8 from ni_nlt (b := 8) (by omega) (by omega))]
    obtain ⟨v1, u1, x1, x2, x3⟩ := j_blame (x := 8) (t := t) ok h ht (by omega) (by omega)
    have xb := x3.2.2.2.2.2.2.2.1
    have o3 : ov g t s (min e (16 * tka g t + 8)) (min e' (16 * tka g t + 8)) := ov_m ok o (Nat.le_refl _) ht (by omega) (by omega)
    obtain ⟨v', w', f1, f1', t1, t2, t3, t4, t5, t6, t7⟩ := j_tell ok x3 ht hc o3 hs
    rw [show (8 : Int32) = nI 8 from rfl, x1, q_bv_s, t1, q_bd_s]
    refine ⟨v', w', f1, f1', rfl, ?_, t3, by omega, by omega, fun z => by omega, t7⟩
    have h0 := h.2.2.2.2.1.1.1
    have hpl := r_place ok h ht
    obtain ⟨u1', y1, y2, y3⟩ := r_blm (g := g) (x := 8) h.2.2.2.2.2.2.2.1 h0 (t := t) (by omega) hpl (by omega) (by omega) (by omega)
    have eu : u1' = u1 := by rw [x2] at y1; exact (Option.some.inj y1).symm
    have su : sb2 w u1 := by rw [← eu]; exact sb2_o y3
    obtain ⟨u2, g1, z1, z2, z3, z4⟩ := p6 u1 su _ xb
    obtain ⟨w2, a1, a2, a3⟩ := r_blm (g := g) (x := 8) p4 ((sb2_i p3 (by omega)).trans h0) (t := t) (by omega) (by rw [(sb2_r p3).1]; exact hpl) (by omega) (by omega) (by omega)
    rw [z1] at t2
    unfold fX12_tell_b20 at t2
    rw [s42 u2 (sb2_t su z2)] at t2
    rw [p1]
    unfold fX12_parameter_b38
    rw [s42 w1 p3, if_neg (show ¬ nI s < 8 from ni_nlt (b := 8) (by omega) (by omega)), show (8 : Int32) = nI 8 from rfl, a1, q_bv_s]
    by_cases c24 : s < 24
    · rw [if_pos (show nI s < 24 from ni_plt (b := 24) c24 (by omega))] at t2
      have ee : w2 = u2 := sb2_e (E := min e1' (16 * tka g t + 8)) (sb2_t p3 (sb2_o a3)) (sb2_t su z2) a2 (by
        rw [show min e1' (16 * tka g t + 8) = g1 by omega]; exact z3) (by omega)
      rw [ee]; exact know _ _ _ t2
    · obtain ⟨u3, m1, m2, m3⟩ := r_blm (g := g) (x := 8) z3 ((sb2_i (sb2_t su z2) (by omega)).trans h0) (t := t) (by omega) (by rw [(sb2_r (sb2_t su z2)).1]; exact hpl) (by omega) (by omega) (by omega)
      rw [if_neg (show ¬ nI s < 24 from ni_nlt (b := 24) (by omega) (by omega)), show (8 : Int32) = nI 8 from rfl, m1, q_bv_s] at t2
      have ee : w2 = u3 := sb2_e (E := min e1' (16 * tka g t + 8)) (sb2_t p3 (sb2_o a3)) (sb2_t (sb2_t su z2) (sb2_o m3)) a2 (by
        rw [show min e1' (16 * tka g t + 8) = min g1 (16 * tka g t + 8) by omega]; exact m2) (by omega)
      rw [ee]; exact know _ _ _ t2
end
