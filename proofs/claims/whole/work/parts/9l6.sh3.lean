def dv_6 : rd_D := fun T XL nu L p p' q q' => ∀ Fin a S f0, dv_H Fin a S T XL f0 → ru_SM6 Fin (ru_at a S) T XL f0 nu L p p' q q'
def dv_5 (nu : Nat) : rd_M := fun T XL pt qt p p' q q' => ∀ Fin a S f0, dv_H Fin a S T XL f0 → ru_SM5 Fin (ru_at a S) T XL f0 nu pt qt p p' q q'
def dv_3 (nu : Nat) (L : List (Nat × Nat)) : rd_M := fun T XL pt qt p p' q q' => ∀ Fin a S f0, dv_H Fin a S T XL f0 → ru_SC3 Fin (ru_at a S) T XL f0 nu L pt qt p p' q q'
set_option maxHeartbeats 200000 in
theorem dv_5N {nu : Nat} : ∀ T XL pt qt p q, dv_5 nu T XL pt qt p p q q := fun T XL pt qt p q Fin a S f0 H => ⟨Nat.le_refl _, Nat.le_refl _, fun c f f1 h g np t cl vA wA v w AC hf D W K hit miss tr => ru_mono (miss f v w D W (Nat.le_refl _) K) (by omega)⟩
set_option maxHeartbeats 200000 in
theorem dv_5E {nu hb : Nat} (hhb : hb + 2 * nu ≤ 142) (h1b : 1 ≤ hb) : ∀ T XL pt qt p p1 q q1, dv_A T XL 1 hb p p1 q q1 → co_c T p1 29 → co_c T (p1 + 1) (nI pt) → co_r T 0 q1 51 → co_r T 1 q1 (nI qt) → dv_5 nu T XL pt qt p (p1 + 2) q (q1 + 1) := fun T XL pt qt p p1 q q1 y c0 c1 r0 r1 Fin a S f0 H => ru_M51 (y Fin a S f0 H) hhb h1b c0 c1 r0 r1
set_option maxHeartbeats 200000 in
theorem dv_5A {nu : Nat} : ∀ T XL pt qt p p1 p2 q q1 q2, dv_5 nu T XL pt qt p p1 q q1 → dv_5 nu T XL pt qt p1 p2 q1 q2 → dv_5 nu T XL pt qt p p2 q q2 := fun T XL pt qt p p1 p2 q q1 q2 y1 y2 Fin a S f0 H => ru_M5A (y1 Fin a S f0 H) (y2 Fin a S f0 H)
set_option maxHeartbeats 200000 in
theorem dv_3N {nu : Nat} {L : List (Nat × Nat)} : ∀ T XL pt qt p q, dv_3 nu L T XL pt qt p p q q := fun T XL pt qt p q Fin a S f0 H => ⟨Nat.le_refl _, Nat.le_refl _, fun c f f1 h g np t cl vc vr v w bd hn hf D W N K hit miss x => ru_mono (miss f v w D W (Nat.le_refl _) N K) (by omega)⟩
set_option maxHeartbeats 200000 in
theorem dv_3E {nu hb : Nat} {L : List (Nat × Nat)} (hhb : hb + 2 * (nu + 1) ≤ 142) (h1b : 1 ≤ hb) : ∀ T XL pt qt p p1 q q1, dv_A T XL 1 hb p p1 q q1 → co_c T p1 28 → co_c T (p1 + 1) (nI pt) → co_r T 0 q1 58 → co_r T 1 q1 (nI qt) → dv_3 nu L T XL pt qt p (p1 + 2) q (q1 + 1) := fun T XL pt qt p p1 q q1 y c0 c1 r0 r1 Fin a S f0 H => ru_C31 (y Fin a S f0 H) hhb h1b c0 c1 r0 r1
set_option maxHeartbeats 200000 in
theorem dv_3A {nu : Nat} {L : List (Nat × Nat)} : ∀ T XL pt qt p p1 p2 q q1 q2, dv_3 nu L T XL pt qt p p1 q q1 → dv_3 nu L T XL pt qt p1 p2 q1 q2 → dv_3 nu L T XL pt qt p p2 q q2 := fun T XL pt qt p p1 p2 q q1 q2 y1 y2 Fin a S f0 H => ru_C3A (y1 Fin a S f0 H) (y2 Fin a S f0 H)
/-- a word that may be set, or none -/
def uA (a : Option Nat) (C : Nat → Int32) (y : Int32) : Nat → Int32 := match a with
  | some a => upd C a y
  | none => C
section
variable {g : rd_G} {i n p i' n' q d k s l b e e' : Nat} {C : Nat → Int32} {r : Int32} {R : Nat → Nat → Int32} {K : rd_K} {A : rd_A} {v w : q_V} {T : co_T} {XL : Int32 → Int32 → Int32 → Prop}
variable {B : q_V → Option (Int32 × q_V)} {B' : q_V → Option (Int64 × q_V)} {ax : Option Nat} {xt0 : Int32}
set_option maxHeartbeats 200000 in
theorem uA_x {y : Int32} {x : Nat} (h : ∀ m, ax = some m → x ≠ m) : uA ax C y x = C x := by
  cases ax with
  | none => rfl
  | some m => exact upd_ne (h m rfl)
set_option maxHeartbeats 200000 in
theorem uA_c {C' : Nat → Int32} {y : Int32} {x : Nat} (h : C x = C' x) : uA ax C y x = uA ax C' y x := by
  cases ax with
  | none => exact h
  | some m =>
    by_cases c : x = m
    · subst c; exact (upd_at ..).trans (upd_at ..).symm
    · exact (upd_ne c).trans (h.trans (upd_ne c).symm)
def aO (ax : Option Nat) (xt0 : Int32) (p : Nat) : Prop := (∀ m, ax = some m → xt0 = nI m ∧ m < p) ∧ (ax = none → xt0 = -1)
set_option maxHeartbeats 200000 in
theorem c_setA {y : Int32} (ok : rd_ok g) (h : St g i n p C i' n' q d r R K k s l b A e e' v w) (ha : aO ax xt0 (2 * gL g + 16)) : ∃ v', fX0_set xt0 y v = some v' ∧ St g i n p (uA ax C y) i' n' q d r R K k s l b A e e' v' w := by
  cases ax with
  | none =>
    refine ⟨v, ?_, h⟩
    rw [ha.2 rfl]
    unfold fX0_set fX0_set_b20
    rw [if_pos (show (-1 : Int32) < 0 by decide)]
  | some m =>
    obtain ⟨h1, h2⟩ := ha.1 m rfl
    rw [h1]; exact c_set ok h h2
set_option maxHeartbeats 200000 in
/-- the block of a mend -/
theorem t_mb {i1 p1 q1 e1 e1' qj Bd : Nat} {C1 : Nat → Int32} {r1 : Int32} {R1 : Nat → Nat → Int32} {K1 : rd_K} {α β : Type} {Fc : Int32 → q_V → Option (α × q_V)} {Fr : Int64 → q_V → Option (β × q_V)} {Q : α → q_V → β → q_V → Prop} (ok : rd_ok g) (hn2 : n ≤ 14) (hB : BS g n B B')
    (z : (p ≤ 2 * tka g i + 8 ∧ q ≤ tka g i + 9 ∧ 3 * K.length ≤ tka g i + 10) ∧ 5 * d ≤ tka g i + 10 + n ∧ 2 * s ≤ tka g i + 10) (o : ov g i s e e') (hln : l ≤ n ∧ LB A l p d)
    (S : St g i1 n p1 C1 i1 n q1 d r1 R1 K1 k s l b A e1 e1' v w) (E : i < i1 ∧ p1 + 2 * tka g i ≤ p + 2 * tka g i1 ∧ q1 + tka g i ≤ q + tka g i1 ∧ 3 * K1.length + tka g i ≤ 3 * K.length + tka g i1 ∧ p ≤ p1 ∧ q ≤ q1) (E2 : (∀ x, x < p → C1 x = C x) ∧ (∀ j x, j < 3 → x < q → R1 j x = R j x) ∧ (∀ j, 3 ≤ j → R1 j = R j) ∧ ∃ t, K1 = t ++ K) (E3 : ∀ u, i ≤ u → u < i1 → tkc g u ≠ 300) (E4 : e1 ≤ e ∧ e1' ≤ e') (E5 : ∀ y, q ≤ y → y < q1 → y ≠ qj → R1 0 y = 41 → R1 1 y ≠ -1) (hqj : q ≤ qj ∧ qj < q1) (ha : aO ax xt0 p1) (hap : ∀ m, ax = some m → p ≤ m)
    (HV : ∀ T XL p2 q2, hT g T → e1 = rd_N → p1 < p2 → p2 < 6016 → ag g T (uA ax C1 (nI (p2 + 1))) (rO R1 1 qj (nI (q2 + 1))) K1 p p1 q q1 d d → dv_S T XL (n + 1) (lsO A.1 b (l - b)) (p1 + 1) p2 q1 q2 → co_c T p1 48 → co_c T p2 54 → co_r T 0 q2 48 → dv_6 T XL n (lsO A.1 b (l - b)) p (p2 + 1) q (q2 + 1))
    (hBd : 3301 + 20 * (14 - n) ≤ Bd) (hFc : ∀ f p a v, xc g f p l v → cG g f p l (Fc a v)) (hFr : ∀ f p a w, xr g f p (3301 + 20 * (14 - n)) w → rG g f p Bd (Fr a w)) (hF : ∀ o2 z2 i2 p2 C2 q2 d2 r2 R2 K2 s2 A2 e2 e2' Y v w, SQ dv_6 g n i n p C q d R K k s l b A e e' o2 z2 i2 p2 C2 q2 d2 r2 R2 K2 k s2 A2 e2 e2' Y v w → p2 + 2 * tka g i + 2 ≤ p + 2 * tka g i2 → q2 + tka g i + 1 ≤ q + tka g i2 → jn g l Bd Q (Fc o2 v) (Fr z2 w)) :
    jn g l Bd Q (q_bd (fX0_add 48 v) (fun _ T => q_bd (B T) (fun y T => q_bd (fX0_add 54 T) (fun _ T => q_bd (fX0_size T) (fun s T => q_bv (fX0_set xt0 s T) (fun T => Fc y T)))))) (q_bd (B' w) (fun z T => q_bd (fX12_emit 48 0 0 T) (fun _ T => if (nI qj) < 0 ∨ 4000 ≤ (nI qj).toNatClampNeg then none else q_lt (q_sa T 2415 (upd (q_a T 2415) (nI qj).toNatClampNeg (q_i T 2417))) (fun T => Fr z T)))) := by
  obtain ⟨⟨z1, z2, z3⟩, zd, zs⟩ := z
  obtain ⟨E1a, E1b, E1c, E1d, E1e, E1f⟩ := E
  have hL := ok.1
  have hi1 := (St_im S).1
  have ta0 := tka_L ok i
  have ta1 := tka_L ok i1
  have tii := tka_lt ok E1a hi1
  have hqj4 : qj < 4000 := by omega
  obtain ⟨v2, a2, s2⟩ := c_add (y := 48) ok S (by omega)
  have JB := hB i1 (p1 + 1) _ q1 d r1 R1 K1 k s l b A e1 e1' v2 w s2 ⟨⟨by omega, by omega, by omega⟩, by omega, by omega⟩ (ov_m ok o (by omega) hi1 E4.1 E4.2) ⟨hln.1, LB_m hln.2 rfl (by omega) (Nat.le_refl _)⟩
  rw [a2, q_bd_s]
  refine jn_dd JB (fun f p a v h => ?_) (fun f p a w h => ?_) ?_
  · exact cG_d (x_add ok h) (fun a v h => cG_d (x_size h) (fun a v h => cG_v (x_set ok h) (fun v h => hFc _ _ _ _ h)))
  · refine rG_d (y_emit (by omega) h) (fun a w h => ?_)
    rw [if_neg (in4 hqj4), q_lt_s]
    exact hFr _ _ _ _ (xr_a (xr_le h (by omega)) (by omega))
  · intro o2 v3 z2' w3 X
    obtain ⟨i2, p2, C2, q2, d2, r2, R2, K2, s2', A2, e2, e2', Y, ⟨F0, ⟨F1, F2, F3, F4, F5, F6, F7, F8, F9, F10, _⟩, ⟨G1, G2, G3, t2, G4⟩, F11, ⟨F12, F13, F14⟩, ⟨F15, F15'⟩, F16, F17, F18⟩, cB, n14, H1, H2, H3, H4, H5⟩ := X
    have hi2 := (St_im F0).1
    have ta2 := tka_L ok i2
    obtain ⟨v4, a4, s4⟩ := c_add (y := 54) ok F0 (by omega)
    obtain ⟨v5, a5, s5⟩ := c_setA (y := nI (p2 + 1)) ok s4 (ax := ax) (xt0 := xt0) ⟨fun m hm => ⟨(ha.1 m hm).1, by have := (ha.1 m hm).2; omega⟩, ha.2⟩
    obtain ⟨w6, b6, s6⟩ := r_emit (o := 48) (a := 0) (c := 0) s5 (by omega)
    have s7 := r_set (j := 1) (a := qj) (y := nI (q2 + 1)) s6 (by omega)
    have BD : i < i2 ∧ p2 + 1 + 2 * tka g i ≤ p + 2 * tka g i2 ∧ q2 + 1 + tka g i ≤ q + tka g i2 ∧ 3 * K2.length + tka g i ≤ 3 * K.length + tka g i2 ∧ 5 * d2 + tka g i ≤ 5 * d + tka g i2 ∧ 2 * s2' + tka g i ≤ 2 * s + tka g i2 ∧ p ≤ p2 + 1 ∧ q ≤ q2 + 1 ∧ d ≤ d2 ∧ s ≤ s2' ∧ k ≤ k := ⟨by omega, by omega, by omega, by omega, by omega, by omega, by omega, by omega, by omega, by omega, by omega⟩
    have BD2 : p2 + 1 + 2 * tka g i + 2 ≤ p + 2 * tka g i2 ∧ q2 + 1 + tka g i + 1 ≤ q + tka g i2 := ⟨by omega, by omega⟩
    have hp16 : p2 < 6016 := by omega
    have hq2b : q2 < 4000 := by omega
    rw [a4, q_bd_s, c_size s4, q_bd_s, a5, q_bv_s, b6, q_bd_s, if_neg (in4 hqj4), ni_clamp (show qj < 2147483648 by omega), q_lt_s, s6.2.2.2.2.1.1.2.2.2.1]
    clear z1 z2 z3 zd zs ta0 ta1 ta2 tii E1b E1c E1d F2 F3 F4 F5 F6 H1 H2 H3 H4 H5
    have nax : ∀ x, p1 ≤ x → ∀ m, ax = some m → x ≠ m := fun x hx m hm => by have := (ha.1 m hm).2; omega
    have kR : ∀ j x, j < 3 → x < q1 → rO (rE R2 q2 48 0 0) 1 qj (nI (q2 + 1)) j x = rO R1 1 qj (nI (q2 + 1)) j x := fun j x hj hx => by
      by_cases c : j = 1 ∧ x = qj
      · rw [c.1, c.2, rO_at, rO_at]
      · have c' : j ≠ 1 ∨ x ≠ qj := by
          rcases Decidable.em (j = 1) with u | u
          · exact Or.inr (fun y => c ⟨u, y⟩)
          · exact Or.inl u
        rw [rO_x c', rO_x c', rE_x (by omega), G2 j x hj hx]
    have kD : ∀ j x, 3 ≤ j → x < d → rO (rE R2 q2 48 0 0) 1 qj (nI (q2 + 1)) j x = R1 j x := fun j x hj hx => by rw [rO_x (by omega), rE_j hj, G3 j x hj hx]
    have kC : ∀ x, x < p1 → upd C2 p2 54 x = C1 x := fun x hx => by rw [upd_ne (by omega), G1 x (by omega), upd_ne (by omega)]
    obtain ⟨I1, I2, I3, t1, I4⟩ := E2
    refine hF o2 z2' i2 (p2 + 1) _ (q2 + 1) d2 r2 _ K2 s2' A2 e2 e2' Y v5 _ ⟨s7, BD, ⟨fun x hx => ?_, fun j x hj hx => ?_, fun j x hj hx => ?_, t2 ++ t1, by rw [G4, I4, List.append_assoc]⟩, fun u h1 h2 => ?_, ⟨F12, F13, F14⟩, ⟨by omega, by omega⟩, F16, fun x h1 h2 => ?_, fun T XL x1 x2 x3 x4 => ?_⟩ BD2.1 BD2.2
    · rw [uA_x (fun m hm => by have := hap m hm; omega), kC x (by omega)]; exact I1 x hx
    · rw [kR j x hj (by omega), rO_x (by omega)]; exact I2 j x hj hx
    · rw [kD j x hj hx, I3 j hj]
    · by_cases c2 : u < i1
      · exact E3 u h1 c2
      · exact F11 u (by omega) h2
    · by_cases c1 : x = q2
      · rw [rO_x (by omega), c1, rE_0, upd_at]; exact fun z => absurd z (by decide)
      · by_cases c2 : x < q1
        · rw [kR 0 x (by omega) c2, kR 1 x (by omega) c2, rO_x (show (0 : Nat) ≠ 1 ∨ _ by omega)]
          by_cases c3 : x = qj
          · rw [c3, rO_at]; exact fun _ => m1_n (by omega)
          · rw [rO_x (Or.inr c3)]; exact E5 x h1 c2 c3
        · rw [rO_x (by omega), rE_x c1, rO_x (by omega), rE_x c1]; exact F17 x (by omega) (by omega)
    · have c0 := ag_c x2 (show p ≤ p1 by omega) (by omega)
      have c1 := ag_c x2 (show p ≤ p2 by omega) (by omega)
      have r0 := ag_r0 x2 (show q ≤ q2 by omega) (by omega)
      rw [uA_x (nax p1 (by omega)), upd_ne (by omega), G1 p1 (by omega), upd_at] at c0
      rw [uA_x (nax p2 (by omega)), upd_at] at c1
      rw [rO_x (by omega), rE_0, upd_at] at r0
      have y2 := F18 T XL x1 (ag_S x2 (by omega) (by omega) (by omega) (by omega) (Nat.le_refl _) (Nat.le_refl _) (fun x h5 hx => by rw [uA_x (nax x (by omega)), upd_ne (by omega)]) (fun j x hj h5 hx => by rw [rO_x (by omega), rE_x (by omega)]) (fun j x hj h5 hx => by rw [rO_x (by omega), rE_j hj]) (fun y hy => hy)) x3 x4
      exact ⟨HV T XL p2 q2 x1 (by have := bl_le S.2.2.2.2.2.2.1; omega) (by omega) hp16 (ag_E x2 (Nat.le_refl _) (by omega) (Nat.le_refl _) (by omega) (fun x _ hx => uA_c (kC x hx)) (fun j x hj _ hx => kR j x hj hx) (fun y hy => by rw [G4]; exact List.mem_append_right _ hy)) y2.1 c0 c1 r0, y2.2⟩
end
