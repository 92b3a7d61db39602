/-- rows that wait, as if their goal were told -/
def paq (x2 y : Int32) (R : Nat → Nat → Int32) : Nat → Nat → Int32 := fun j x => if j = 1 ∧ R 0 x = x2 ∧ R 1 x = -1 then y else R j x
abbrev rd_M : Type := co_T → (Int32 → Int32 → Int32 → Prop) → Nat → Nat → Nat → Nat → Nat → Nat → Prop
/-- a list, as far as it is read: f is 1 between an E and its comma -/
def LQ (M : rd_M) (x2 : Int32) (g : rd_G) (i n p : Nat) (C : Nat → Int32) (q d : Nat) (R : Nat → Nat → Int32) (K : rd_K) (k s l b : Nat) (A : rd_A) (e e' : Nat) (f : Nat) (ch : List Nat) (x nt : Int32) (m i1 p1 : Nat) (C1 : Nat → Int32) (q1 : Nat) (r1 : Int32) (R1 : Nat → Nat → Int32) (K1 : rd_K) (e1 e1' : Nat) (v w : q_V) : Prop :=
  St g i1 n p1 C1 i1 n q1 d r1 R1 K1 k s l b A e1 e1' v w ∧ (2 * m + i + f ≤ i1 ∧ p1 + 2 * tka g i ≤ p + 2 * tka g i1 + 2 * f ∧ q1 + tka g i ≤ q + tka g i1 + f ∧ 3 * K1.length + tka g i ≤ 3 * K.length + tka g i1 ∧ p ≤ p1 ∧ q ≤ q1) ∧ ((∀ x, x < p → C1 x = C x) ∧ (∀ j x, j < 3 → x < q → R1 j x = R j x) ∧ (∀ j, 3 ≤ j → R1 j = R j) ∧ ∃ t, K1 = t ++ K) ∧ (∀ u, i ≤ u → u < i1 → tkc g u ≠ 300) ∧ ((nt &&& 1 = 0 ↔ r1 = 0) ∧ (r1 = 0 ∨ r1 = 1)) ∧ (e1 ≤ e ∧ e1' ≤ e') ∧ (∀ y, q ≤ y → y < q1 → R1 0 y < 30 ∨ R1 0 y = x2 ∧ R1 1 y = -1) ∧ (chn C1 ch x ∧ (∀ a ∈ ch, p ≤ a ∧ a < p1) ∧ 2 * ch.length + p ≤ p1) ∧ ∀ pt qt T XL, hT g T → ag g T (ups (nI pt) C1 ch) (paq x2 (nI qt) R1) K1 p p1 q q1 d d → e1 = rd_N → M T XL pt qt p p1 q q1
/-- a list that is read, with its jump behind it -/
def LO (M : rd_M) (g : rd_G) (i n p : Nat) (C : Nat → Int32) (q d : Nat) (R : Nat → Nat → Int32) (K : rd_K) (k s l b : Nat) (A : rd_A) (e e' : Nat) (nt : Int32) (i1 pj : Nat) (C1 : Nat → Int32) (qj : Nat) (r1 : Int32) (R1 : Nat → Nat → Int32) (K1 : rd_K) (e1 e1' : Nat) (v w : q_V) : Prop :=
  St g i1 n (pj + 2) C1 i1 n (qj + 1) d r1 R1 K1 k s l b A e1 e1' v w ∧ (i < i1 ∧ pj + 2 * tka g i ≤ p + 2 * tka g i1 + 2 ∧ qj + tka g i ≤ q + tka g i1 + 1 ∧ 3 * K1.length + tka g i ≤ 3 * K.length + tka g i1 ∧ p ≤ pj ∧ q ≤ qj) ∧ ((∀ x, x < p → C1 x = C x) ∧ (∀ j x, j < 3 → x < q → R1 j x = R j x) ∧ (∀ j, 3 ≤ j → R1 j = R j) ∧ ∃ t, K1 = t ++ K) ∧ (∀ u, i ≤ u → u < i1 → tkc g u ≠ 300) ∧ ((nt &&& 1 = 0 ↔ r1 = 0) ∧ (r1 = 0 ∨ r1 = 1)) ∧ (e1 ≤ e ∧ e1' ≤ e') ∧ (C1 pj = 22 ∧ R1 0 qj = 41) ∧ (∀ y, q ≤ y → y < qj → R1 0 y ≠ 41) ∧ ∀ T XL, hT g T → ag g T C1 R1 K1 p pj q qj d d → e1 = rd_N → M T XL (pj + 2) (qj + 1) p pj q qj
def LsP (M : rd_M) (g : rd_G) (i n p : Nat) (C : Nat → Int32) (q d : Nat) (R : Nat → Nat → Int32) (K : rd_K) (k s l b : Nat) (A : rd_A) (e e' : Nat) (nt : Int32) (v : q_V) (y : Int32) (w : q_V) : Prop := ∃ i1 pj C1 qj r1 R1 K1 e1 e1', y = nI qj ∧ LO M g i n p C q d R K k s l b A e e' nt i1 pj C1 qj r1 R1 K1 e1 e1' v w
section
variable {g : rd_G} {i n p q d k s l b e e' : Nat} {C : Nat → Int32} {R : Nat → Nat → Int32} {K : rd_K} {A : rd_A} {v w : q_V} {M : rd_M} {x1 x2 c1 : Int32}
set_option maxHeartbeats 200000 in
theorem paq_n {y : Int32} {j x : Nat} (h : ¬ (j = 1 ∧ R 0 x = x2 ∧ R 1 x = -1)) : paq x2 y R j x = R j x := if_neg h
set_option maxHeartbeats 200000 in
theorem paq_c {y : Int32} {R' : Nat → Nat → Int32} {j x : Nat} (hj : j < 3) (h : ∀ j, j < 3 → R' j x = R j x) : paq x2 y R' j x = paq x2 y R j x := by
  unfold paq; rw [h 0 (by omega), h 1 (by omega), h j hj]
set_option maxHeartbeats 200000 in
/-- one E more, and its order that waits -/
theorem l_E {hb m i1 p1 q1 e1 e1' i3 p3 q3 e3 e3' : Nat} {C1 C3 : Nat → Int32} {r1 r3 a x nt : Int32} {R1 R3 : Nat → Nat → Int32} {K1 K3 : rd_K} {ch : List Nat} {v1 w1 v3 w3 : q_V} (hx2 : ¬ x2 < 30) (hx3 : x2 ≠ 19) (H1 : ∀ T XL pt qt p p1 q q1, dv_A T XL 1 hb p p1 q q1 → co_c T p1 c1 → co_c T (p1 + 1) (nI pt) → co_r T 0 q1 x2 → co_r T 1 q1 (nI qt) → M T XL pt qt p (p1 + 2) q (q1 + 1)) (H2 : ∀ T XL pt qt p p1 p2 q q1 q2, M T XL pt qt p p1 q q1 → M T XL pt qt p1 p2 q1 q2 → M T XL pt qt p p2 q q2)
    (X : LQ M x2 g i n p C q d R K k s l b A e e' 0 ch x nt m i1 p1 C1 q1 r1 R1 K1 e1 e1' v1 w1) (E : EQ g i1 n p1 C1 q1 d r1 R1 K1 k s l b A e1 e1' hb a i3 p3 C3 q3 r3 R3 K3 e3 e3' v3 w3) (S : St g i3 n (p3 + 2) (upd (upd C3 p3 c1) (p3 + 1) x) i3 n (q3 + 1) d r3 (rE R3 q3 x2 (-1) 0) K3 k s l b A e3 e3' v w) : LQ M x2 g i n p C q d R K k s l b A e e' 1 ((p3 + 1) :: ch) (nI (p3 + 1)) (nt ||| a) m i3 (p3 + 2) (upd (upd C3 p3 c1) (p3 + 1) x) (q3 + 1) r3 (rE R3 q3 x2 (-1) 0) K3 e3 e3' v w := by
  obtain ⟨X0, ⟨X1, X2, X3, X4, X5, X6⟩, ⟨X7, X8, X9, t1, X10⟩, X11, ⟨X12, X13⟩, ⟨X14, X15⟩, X16, ⟨X17, X18, X19⟩, X20⟩ := X
  obtain ⟨_, ⟨E1, E2, E3, E4, E5, E6⟩, ⟨E7, E8, E9, t2, E10⟩, E11, ⟨E12, E13, E14⟩, ⟨E15, E15'⟩, E16, E17⟩ := E
  have kC : ∀ y, y < p1 → upd (upd C3 p3 c1) (p3 + 1) x y = C1 y := fun y hy => by rw [upd_ne (by omega), upd_ne (by omega), E7 y hy]
  have kR : ∀ y, y < q1 → ∀ j, j < 3 → rE R3 q3 x2 (-1) 0 j y = R1 j y := fun y hy j hj => by rw [rE_x (by omega), E8 j y hj hy]
  have nin : ∀ y, p1 ≤ y → y ≠ p3 + 1 → y ∉ (p3 + 1) :: ch := fun y h1 h2 z => by
    rcases List.mem_cons.1 z with z | z
    · exact h2 z
    · have := X18 y z; omega
  refine ⟨S, ⟨by omega, by omega, by omega, by omega, by omega, by omega⟩, ⟨fun y hy => by rw [kC y (by omega)]; exact X7 y hy, fun j y hj hy => by rw [kR y (by omega) j hj]; exact X8 j y hj hy, fun j hj => by rw [rE_j hj, E9 j hj]; exact X9 j hj, t2 ++ t1, by rw [E10, X10, List.append_assoc]⟩, fun u h1 h2 => ?_, ⟨?_, ?_⟩, ⟨by omega, by omega⟩, fun y h1 h2 => ?_, ⟨⟨rfl, by omega, fun a ha => by have := X18 a ha; omega, ?_⟩, fun a ha => ?_, by rw [List.length_cons]; omega⟩, fun pt qt T XL g1 g2 g3 => ?_⟩
  · by_cases c : u < i1
    · exact X11 u h1 c
    · exact E11 u (by omega) h2
  · rw [or_1 E12, X12, E14]
    by_cases ca : a = 1
    · rw [if_pos ca]; exact ⟨fun z => absurd ca z.2, fun z => absurd z (by decide)⟩
    · rw [if_neg ca]; exact ⟨fun z => z.1, fun z => ⟨z, ca⟩⟩
  · rw [E14]; split
    · exact Or.inr rfl
    · exact X13
  · by_cases c : y < q1
    · rw [kR y c 0 (by omega), kR y c 1 (by omega)]; exact X16 y h1 c
    · by_cases c2 : y = q3
      · rw [c2, rE_0, rE_1, upd_at, upd_at]; exact Or.inr ⟨rfl, rfl⟩
      · rw [rE_x c2]; exact Or.inl (E16 y (by omega) (by omega))
  · rw [upd_at]; exact chn_c ch x (fun a ha => by rw [kC a (X18 a ha).2]) X17
  · rcases List.mem_cons.1 ha with z | z
    · omega
    · have := X18 a z; omega
  · have m1 := X20 pt qt T XL g1 (ag_E g2 (Nat.le_refl _) (by omega) (Nat.le_refl _) (by omega) (fun y h1 h2 => by
        by_cases c : y ∈ ch
        · rw [ups_in _ _ c, ups_in _ _ (List.mem_cons_of_mem _ c)]
        · rw [ups_x _ _ c, ups_x _ _ (fun z => by
            rcases List.mem_cons.1 z with z | z
            · omega
            · exact c z), kC y h2]) (fun j y hj h1 h2 => paq_c hj (kR y h2)) (fun y hy => by rw [E10]; exact List.mem_append_right _ hy)) (by have := bl_le X0.2.2.2.2.2.2.1; omega)
    have m2 := E17 T XL g1 (ag_E g2 (by omega) (by omega) (by omega) (by omega) (fun y h1 h2 => by rw [ups_x _ _ (nin y h1 (by omega)), upd_ne (by omega), upd_ne (by omega)]) (fun j y hj h1 h2 => by
        rw [paq_n (fun z => hx2 (by rw [← z.2.1, rE_x (by omega)]; exact E16 y h1 h2)), rE_x (by omega)]) (fun y hy => hy)) g3
    have c0 := ag_c g2 (show p ≤ p3 by omega) (by omega)
    have c1' := ag_c g2 (show p ≤ p3 + 1 by omega) (by omega)
    have r0 := ag_r0 g2 (show q ≤ q3 by omega) (by omega)
    have d0 : rE R3 q3 x2 (-1) 0 0 q3 = x2 := by rw [rE_0, upd_at]
    have d1 : rE R3 q3 x2 (-1) 0 1 q3 = -1 := by rw [rE_1, upd_at]
    have d00 : paq x2 (nI qt) (rE R3 q3 x2 (-1) 0) 0 q3 = x2 := by rw [paq_n (fun z => absurd z.1 (by decide)), d0]
    have r1' := ag_r1 g2 (show q ≤ q3 by omega) (by omega) (by rw [d00]; exact hx3)
    rw [ups_x _ _ (nin p3 (by omega) (by omega)), upd_ne (by omega), upd_at] at c0
    rw [ups_in _ _ (List.mem_cons_self ..)] at c1'
    rw [d00] at r0
    rw [show paq x2 (nI qt) (rE R3 q3 x2 (-1) 0) 1 q3 = nI qt from if_pos ⟨rfl, d0, d1⟩] at r1'
    exact H2 _ _ _ _ _ _ _ _ _ _ m1 (H1 T XL pt qt p1 p3 q1 q3 m2 c0 c1' r0 r1')
set_option maxHeartbeats 200000 in
/-- the list's end -/
theorem l_end {m i1 p1 q1 e1 e1' : Nat} {C1 : Nat → Int32} {r1 x nt : Int32} {R1 : Nat → Nat → Int32} {K1 : rd_K} {ch : List Nat} (ok : rd_ok g) (hx1 : ¬ x1 < 30) (h41 : x1 ≠ 41 ∧ x2 ≠ 41) (z : p + 2 ≤ 2 * tka g i + 12 ∧ q + 1 ≤ tka g i + 11) (X : LQ M x2 g i n p C q d R K k s l b A e e' 1 ch x nt m i1 p1 C1 q1 r1 R1 K1 e1 e1' v w) : ∃ v' y w', fX8_list_b65 c1 nt x v = some (nt, v') ∧ fX12_list_b47 x1 x2 (nI q) w = some (y, w') ∧ LsP M g i n p C q d R K k s l b A e e' nt v' y w' := by
  obtain ⟨X0, ⟨X1, X2, X3, X4, X5, X6⟩, ⟨X7, X8, X9, X10⟩, X11, X12, ⟨X14, X15⟩, X16, ⟨X17, X18, X19⟩, X20⟩ := X
  have hi1 := (St_im X0).1
  have hL := ok.1
  have ta := tka_L ok i1
  obtain ⟨v2, a2, s2⟩ := c_add2 (x := 22) (y := 0) ok X0 (by omega)
  obtain ⟨v3, a3, s3⟩ := c_chain (x1 := x) (y := nI (p1 + 2)) ok ch x 0 q_N _ v2 s2 (chn_c ch x (fun a ha => by have := X18 a ha; rw [upd_ne (by omega), upd_ne (by omega)]) X17) (fun a ha => by have := X18 a ha; omega) (by omega) (by unfold q_N; omega)
  obtain ⟨w4, b4, s4⟩ := r_emit (o := 41) (a := 0) (c := 0) s3 (by omega)
  obtain ⟨w5, b5, s5⟩ := r_pat (x1 := x1) (x2 := x2) (y := nI q1) (q1 + 1 - q) q q_N _ w4 s4 (by omega) (by omega) (by unfold q_N; omega)
  have nin : ∀ y, p1 ≤ y → y ∉ ch := fun y h1 z => by have := X18 y z; omega
  have hq : ∀ j y, (y < q ∨ j ≠ 1 ∨ y = q1) → pat x1 x2 q (q1 + 1) (rE R1 q1 41 0 0) j y = rE R1 q1 41 0 0 j y := fun j y h => by
    unfold pat
    refine if_neg (fun z => ?_)
    rcases h with h | h | h
    · omega
    · exact h z.1
    · have := z.2.2.2.1
      rw [h, rE_0, upd_at] at this
      rcases this with y | y
      · exact h41.1 y.symm
      · exact h41.2 y.symm
  refine ⟨v3, nI q1, w5, ?_, ?_, i1, p1, _, q1, r1, _, K1, e1, e1', rfl, s5, ⟨by omega, by omega, by omega, X4, X5, X6⟩, ⟨fun y hy => by rw [ups_x _ _ (fun z => by have := X18 y z; omega), upd_ne (by omega), upd_ne (by omega)]; exact X7 y hy, fun j y hj hy => by rw [hq j y (by omega), rE_x (by omega)]; exact X8 j y hj hy, fun j hj => by funext y; rw [hq j y (by omega), rE_j hj, X9 j hj], X10⟩, X11, X12, ⟨X14, X15⟩, ⟨?_, ?_⟩, fun y h1 h2 => ?_, fun T XL g1 g2 g3 => X20 (p1 + 2) (q1 + 1) T XL g1 (ag_E g2 (Nat.le_refl _) (Nat.le_refl _) (Nat.le_refl _) (Nat.le_refl _) (fun y h1 h2 => ?_) (fun j y hj h1 h2 => ?_) (fun y hy => hy)) g3⟩
  · unfold fX8_list_b65 fX0_setChain
    rw [a2, q_bd_s, show nI p1 + 2 = nI (p1 + 2) from ni_add (b := 2)]
    have : fX0_setChain_L5 x (nI (p1 + 2)) q_N x 0 v2 = some v3 := a3
    rw [this]; rfl
  · unfold fX12_list_b47
    rw [b4, q_bd_s, b5]
  · rw [ups_x _ _ (nin p1 (Nat.le_refl _)), upd_ne (by omega), upd_at]
  · rw [hq 0 q1 (by omega), rE_0, upd_at]
  · rw [hq 0 y (by omega), rE_x (by omega)]
    rcases X16 y h1 h2 with u | u
    · exact i30 u
    · rw [u.1]; exact h41.2
  · by_cases c : y ∈ ch
    · rw [ups_in _ _ c, ups_in _ _ c]
    · rw [ups_x _ _ c, ups_x _ _ c, upd_ne (by omega), upd_ne (by omega)]
  · have k0 : ∀ j, rE R1 q1 41 0 0 j y = R1 j y := fun j => rE_x (by omega)
    unfold pat paq
    rw [k0, k0, k0]
    by_cases c : j = 1 ∧ R1 0 y = x2 ∧ R1 1 y = -1
    · rw [if_pos c, if_pos ⟨c.1, h1, by omega, Or.inr c.2.1, c.2.2⟩]
    · rw [if_neg c, if_neg (fun u => ?_)]
      rcases X16 y h1 h2 with t | t
      · rcases u.2.2.2.1 with m | m
        · exact hx1 (by rw [← m]; exact t)
        · exact c ⟨u.1, m, u.2.2.2.2⟩
      · exact c ⟨u.1, t.1, t.2⟩
end
