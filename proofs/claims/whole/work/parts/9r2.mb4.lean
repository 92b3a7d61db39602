section
variable {g : q_G} {S T U : kp_S} {b1 b2 b3 n1 n2 a L : Nat} {P : kp_S → Prop} {x o pl : Int32} {v v1 v2 : q_V}
set_option maxHeartbeats 200000 in
/-- read over the pool, behind the new book, out of what holds on views -/
theorem rd_core (h : LI g S) (ha : LA g a S) (kk : ∀ g' T, LI g' T → LA g' a T → g' 0 11 0 = g 0 11 0 → g' 0 12 0 = g 0 12 0 → P T) (B : nB S U b1 b2 b3 n1 n2)
    (e1 : fX8_readTextR (nI L) (q_w (nG g S b1 b2 b3) U) = some v1) (e2 : fX8_faultKind v1 = some (o, v1)) (e3 : fX8_faultPlace v1 = some (pl, v1)) (ek : rdk (q_w (nG g S b1 b2 b3) U) v1) (d1 : ∀ k, uQ k → q_a (q_w (nG g S b1 b2 b3) U) k = q_a (q_w g S) k ∧ q_b (q_w (nG g S b1 b2 b3) U) k = q_b (q_w g S) k)
    (hp : ∀ vO, LU (q_w g S) vO → (q_i vO 2206 = 0 ∧ q_i vO 2207 = o ∧ q_i vO 2208 = pl) → (∀ k, uQ k → q_a vO k = q_a v1 k ∧ q_b vO k = q_b v1 k) → (o = 0 → BU v1 vO) → (o ≠ 0 → BU (q_w g S) vO) → ∃ v2, fX12_read vO = some (o, v2) ∧ LR v2 v2) :
    wX8_readText (g 0 8 0) b1 (nI L) U (fun T5 => ∀ T6 : kp_S, T6 = kp_sI T5 2206 (g 0 11 0) 0 → ∃ b7 : Nat, kp_R T6 2201 (g 0 11 0) = some b7 ∧ wX8_faultKind b7 T6 (fun y9 T8 => ∀ T10 : kp_S, T10 = kp_sI T8 2207 (g 0 11 0) y9 → ∃ b11 : Nat, kp_R T10 2201 (g 0 11 0) = some b11 ∧ wX8_faultPlace b11 T10 (fun y13 T12 => ∀ T14 : kp_S, T14 = kp_sI T12 2208 (g 0 11 0) y13 → ((¬ (kp_I T14 2207 (g 0 11 0)) = 0 → wX11_read_b63 (g 0 11 0) T14 (fun y T => wX12_read (g 0 12 0) T (fun y' T2 => (y = y' → P T2) ∧ (¬ y = y' → False)))) ∧ ((kp_I T14 2207 (g 0 11 0)) = 0 → ∀ T15 : kp_S, T15 = kp_sR T14 2205 (g 0 11 0) b1 → wX11_read_b63 (g 0 11 0) T15 (fun y T => wX12_read (g 0 12 0) T (fun y' T2 => (y = y' → P T2) ∧ (¬ y = y' → False)))))))) := by
  obtain ⟨hi, hg, m, hl⟩ := h
  have f := B.2.1
  have fr0 := B.1
  have hg' := nG_gr hi hg m B
  have hi' := nG_inj (g := g) hi f
  have m' := nG_mem hi m B
  have a11 := m.1 11 (by decide)
  have a12 := m.1 12 (by decide)
  have E11 : nG g S b1 b2 b3 0 11 0 = g 0 11 0 := nG_u hi a11 f (by decide) (by decide) (by decide)
  have E12 : nG g S b1 b2 b3 0 12 0 = g 0 12 0 := nG_u hi a12 f (by decide) (by decide) (by decide)
  have E8 : nG g S b1 b2 b3 0 8 0 = g 0 8 0 := nG_u hi (m.1 8 (by decide)) f (by decide) (by decide) (by decide)
  have E0 : nG g S b1 b2 b3 0 0 0 = b1 := nG_1 m f
  have EQ : ∀ k, uQ k → nG g S b1 b2 b3 1 k 0 = g 1 k 0 := fun k hk => by
    obtain ⟨q, q1, q2⟩ := uQ_len hk
    have t := m.2.1 q q1
    rw [q2] at t
    exact nG_u hi t f (by omega) (by unfold uQ at hk; omega) (by unfold uQ at hk; omega)
  refine w_rd hi' hg' (m'.1 11 (by decide)) E11.symm E8.symm E0.symm e1 e2 e3 (fun T gT fT rT vT => ?_)
  have k6 : kp_I T 2206 (g 0 11 0) = 0 := by
    have z : q_i (q_w (nG g S b1 b2 b3) T) 2206 = 0 := by rw [vT]; rfl
    rw [← E11]; exact z
  have k7 : kp_I T 2207 (g 0 11 0) = o := by
    have z : q_i (q_w (nG g S b1 b2 b3) T) 2207 = o := by rw [vT]; rfl
    rw [← E11]; exact z
  have k8 : kp_I T 2208 (g 0 11 0) = pl := by
    have z : q_i (q_w (nG g S b1 b2 b3) T) 2208 = pl := by rw [vT]; rfl
    rw [← E11]; exact z
  have k12 : ∀ k, kp_I T k (g 0 12 0) = kp_I S k (g 0 12 0) := fun k => by
    have no : ¬ rdQ (nG g S b1 b2 b3) (g 0 12 0) := by
      rw [← E12]
      rintro (z | z)
      · exact own_no hi' rfl z
      · exact absurd (hi' _ _ _ _ _ _ z).2.1 (by decide)
    rw [(fT.2 _ (fr0.1 _ a12).1 no).1, (fr0.2 _ a12 not_false).1]
  have uq : ∀ k, uQ k → kp_A T (g 1 k 0) = q_a v1 k ∧ kp_B T (g 1 k 0) = q_b v1 k := fun k hk => by
    have z1 : q_a (q_w (nG g S b1 b2 b3) T) k = q_a v1 k := by rw [vT]; rfl
    have z2 : q_b (q_w (nG g S b1 b2 b3) T) k = q_b v1 k := by rw [vT]; rfl
    rw [← EQ k hk]; exact ⟨z1, z2⟩
  have us : ∀ k, uQ k → kp_A T (g 1 k 0) = kp_A S (g 1 k 0) ∧ kp_B T (g 1 k 0) = kp_B S (g 1 k 0) := fun k hk => by
    have b2 := ek.2.2.1 k (by unfold uQ at hk; omega)
    obtain ⟨c1, c2⟩ := d1 k hk
    obtain ⟨c3, c4⟩ := uq k hk
    exact ⟨c3.trans (b2.1.trans c1), c4.trans (b2.2.trans c2)⟩
  have lST : kp_le S T := fr0.1.tr fT.1
  refine ⟨fun c => ?_, fun c T15 e15 => ?_⟩
  · -- a fault: the old book stays
    rw [k7] at c
    unfold wX11_read_b63
    rw [k7]
    have old : ∀ x, x ∈ kp_L S → (x = g 0 0 0 ∨ x = g 1 0 0 ∨ x = g 1 2 0) → (∀ j, kp_I T j x = kp_I S j x) ∧ (∀ j, kp_R T j x = kp_R S j x) ∧ kp_A T x = kp_A S x := fun x hx ho => by
      have no : ¬ rdQ (nG g S b1 b2 b3) x := by
        rintro (⟨t, k, n, _, z⟩ | z)
        · obtain ⟨_, z1, z2, z3⟩ := nG_no hx f z
          rcases ho with w | w | w
          · exact z1 w
          · exact z2 w
          · exact z3 w
        · obtain ⟨_, z1, z2, z3⟩ := nG_no hx f z
          rcases ho with w | w | w
          · exact z1 w
          · exact z2 w
          · exact z3 w
      obtain ⟨c1, _, c3, c4, _, _⟩ := fT.2 x (fr0.1 x hx).1 no
      obtain ⟨s1, _, s3, s4, _, _⟩ := fr0.2 x hx not_false
      exact ⟨fun j => (c1 j).trans (s1 j), fun j => (c3 j).trans (s3 j), c4.trans s4⟩
    have l0 := m.1 0 (by decide)
    have o0 := old _ l0 (Or.inl rfl)
    have o1 := old _ m.2.2.1.1 (Or.inr (Or.inl rfl))
    have o2 := old _ m.2.2.1.2 (Or.inr (Or.inr rfl))
    have r5 : kp_R T 2205 (g 0 11 0) = some (g 0 0 0) := by
      rw [← E11, rT, E11, (fr0.2 _ a11 not_false).2.2.1]; exact hg.2.1 2205 (by simp [q_bp])
    have hgT := nG_back hi m f gT (by rw [o0.2.1]; exact hg.1 (0, 1, 0, 0) (by decide +kernel)) (by rw [o0.2.1]; exact hg.1 (2, 1, 2, 0) (by decide +kernel)) r5
    have lu : ∀ k, 2400 < k → k < 2600 → q_i (q_w g T) k = q_i (q_w g S) k := fun k c1 c2 => by
      show kp_I T k (g 0 (k / 200) 0) = kp_I S k (g 0 (k / 200) 0)
      rw [show k / 200 = 12 by omega]; exact k12 k
    obtain ⟨v2, r1, r2⟩ := hp (q_w g T) ⟨lu, us⟩ ⟨k6, k7, k8⟩ uq (fun z => absurd z c) (fun _ => ⟨o0.1 1, o0.1 3, o1.2.2, o2.2.2, (lST _ m.2.2.1.1).2.2, (lST _ m.2.2.1.2).2.2⟩)
    exact rd_fin hi hgT (q_mem_le m lST) r1 r2 (fun T2 i2 l2 => kk g T2 i2 (LA_le ha (lST.tr l2)) rfl rfl)
  · -- the new book is the face's
    rw [k7] at c
    subst c
    unfold wX11_read_b63
    have l15 : kp_le T T15 := by subst e15; exact fun _ z => ⟨z, rfl, rfl⟩
    have g15 : q_gr 3 (nG g S b1 b2 b3) (kp_R T15) (kp_C T15) (kp_N T15) := by
      subst e15
      have := G_2205 gT
      rw [E11, E0] at this; exact this
    have w15 : q_w (nG g S b1 b2 b3) T15 = q_w (nG g S b1 b2 b3) T := by subst e15; rfl
    have i15 : kp_I T15 2207 (g 0 11 0) = 0 := by subst e15; exact k7
    rw [i15]
    have lu : ∀ k, 2400 < k → k < 2600 → q_i (q_w (nG g S b1 b2 b3) T) k = q_i (q_w g S) k := fun k c1 c2 => by
      show kp_I T k (nG g S b1 b2 b3 0 (k / 200) 0) = kp_I S k (g 0 (k / 200) 0)
      rw [show k / 200 = 12 by omega, E12]; exact k12 k
    have lq : ∀ k, uQ k → q_a (q_w (nG g S b1 b2 b3) T) k = q_a (q_w g S) k ∧ q_b (q_w (nG g S b1 b2 b3) T) k = q_b (q_w g S) k := fun k hk => by
      show kp_A T (nG g S b1 b2 b3 1 k 0) = kp_A S (g 1 k 0) ∧ kp_B T (nG g S b1 b2 b3 1 k 0) = kp_B S (g 1 k 0)
      rw [EQ k hk]; exact us k hk
    obtain ⟨v2, r1, r2⟩ := hp (q_w (nG g S b1 b2 b3) T) ⟨lu, lq⟩ ⟨by rw [vT]; rfl, by rw [vT]; rfl, by rw [vT]; rfl⟩ (fun k hk => by rw [vT]; exact ⟨rfl, rfl⟩) (fun _ => by rw [vT]; exact ⟨rfl, rfl, rfl, rfl, rfl, rfl⟩) (fun z => absurd rfl z)
    rw [← w15] at r1
    rw [← E12]
    exact rd_fin hi' g15 (q_mem_le m' (fT.1.tr l15)) r1 r2 (fun T2 i2 l2 => kk _ T2 i2 (nG_LA f ha ((lST.tr l15).tr l2)) E11 E12)
set_option maxHeartbeats 200000 in
/-- READ over the pool -/
theorem HRD_all : HRD a := by
  intro g S P h ha kk
  obtain ⟨L, l1, l2, l3, l4⟩ := h.2.2.2.1
  have hl := h.2.2.2
  have m := h.2.2.1
  have hi := h.1
  have hg := h.2.1
  have a11 := m.1 11 (by decide)
  unfold wX11_read
  intro b1 T2 hb e2
  subst e2
  rw [show kp_I (kp_new S b1 0) 2206 (g 0 11 0) = nI L from by rw [rd_I_new, if_neg (ne_L a11 hb)]; exact l2]
  refine w_book l1 hb (fun U b2 b3 B => ?_)
  have f := B.2.1
  have fr0 := B.1
  refine ⟨g 0 8 0, by rw [(fr0.2 _ a11 not_false).2.2.1]; exact hg.1 (2201, 0, 8, 0) (by decide +kernel), ?_⟩
  rw [show kp_I U 2206 (g 0 11 0) = nI L from by rw [(fr0.2 _ a11 not_false).1]; exact l2]
  have d1 : ∀ k, uQ k → q_a (q_w (nG g S b1 b2 b3) U) k = q_a (q_w g S) k ∧ q_b (q_w (nG g S b1 b2 b3) U) k = q_b (q_w g S) k := fun k hk => by
    obtain ⟨q, q1, q2⟩ := uQ_len hk
    have t := m.2.1 q q1
    rw [q2] at t
    show kp_A U (nG g S b1 b2 b3 1 k 0) = kp_A S (g 1 k 0) ∧ kp_B U (nG g S b1 b2 b3 1 k 0) = kp_B S (g 1 k 0)
    rw [nG_u hi t f (by omega) (by unfold uQ at hk; omega) (by unfold uQ at hk; omega)]
    exact ⟨(fr0.2 _ t not_false).2.2.2.1, (fr0.2 _ t not_false).2.2.2.2.1⟩
  have n1 : nG g S b1 b2 b3 0 0 0 = b1 := nG_1 m f
  have n2 : nG g S b1 b2 b3 1 0 0 = b2 := nG_2 hi m f
  have n3 : nG g S b1 b2 b3 1 2 0 = b3 := nG_3 hi m f
  have i1 : q_i (q_w (nG g S b1 b2 b3) U) 1 = 0 := by
    show kp_I U 1 (nG g S b1 b2 b3 0 0 0) = 0
    rw [n1]; exact B.2.2.2.2.2.1
  have i3 : q_i (q_w (nG g S b1 b2 b3) U) 3 = 0 := by
    show kp_I U 3 (nG g S b1 b2 b3 0 0 0) = 0
    rw [n1]; exact B.2.2.2.2.2.2.1
  by_cases c : L = 0
  · subst c
    obtain ⟨v1, o, pl, p1, p2, p3, p4, p5, p6⟩ := h_read0 hl l2 d1 ⟨i1, i3⟩
    exact rd_core h ha kk B p1 p2 p3 p4 d1 (fun vO q1 q2 q3 _ q5 => p6 vO q1 q2 q3 (q5 p5))
  · rw [if_neg c, if_neg c] at B
    obtain ⟨v1, o, pl, p1, p2, p3, p4, p5⟩ := h_read (vD := q_w (nG g S b1 b2 b3) U) hl l2 l1 d1 ⟨i1, i3, by
      show kp_N U (nG g S b1 b2 b3 1 0 0) = 2 * L + 16
      rw [n2]; exact B.2.2.2.2.2.2.2.1, by
      show kp_N U (nG g S b1 b2 b3 1 2 0) = 150
      rw [n3]; exact B.2.2.2.2.2.2.2.2⟩
    exact rd_core h ha kk B p1 p2 p3 p4 d1 p5
end
