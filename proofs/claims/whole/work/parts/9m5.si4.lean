section
variable {g : rd_G} {i n p i' n' q d k s l b e e' : Nat} {C : Nat → Int32} {r : Int32} {R : Nat → Nat → Int32} {K : rd_K} {A : rd_A} {v w : q_V} {T : co_T} {XL : Int32 → Int32 → Int32 → Prop}
variable {B : q_V → Option (Int32 × q_V)} {B' : q_V → Option (Int64 × q_V)}
/-- what the reference does behind the whens -/
def chR (B' : q_V → Option (Int64 × q_V)) (m a4 : Int32) (z : Int64) (w : q_V) : Option (Int64 × q_V) := q_bd (fX12_emit 4 0 0 w) (fun _ T => q_bd (fX12_skip 49 T) (fun y6 T5 => if y6 = 0 then if a4 = 0 then q_lt (z ||| 1 : Int64) (fun z7 => fX12_choose_b203 B' z7 m T5) else fX12_choose_b203 B' z m T5 else q_bd (B' T5) (fun z10 T9 => if a4 = 0 then fX12_choose_b190 B' m (z ||| z10) T9 else fX12_choose_b190 B' m z T9)))
set_option maxHeartbeats 200000 in
theorem ch_loop {Bd : Nat} {a1 : Int32} {Q : Int32 → q_V → Int64 → q_V → Prop} (ok : rd_ok g) (hn : 1 ≤ n) (hn2 : n + 1 ≤ 14) (hi : 1 ≤ i) (hB : BS g (n + 1) B B') (hxB : ∀ f p l v, xc g f p l v → cG g f p l (B v)) (hyB : ∀ f p Bd w, xr g f p Bd w → rG g f p Bd (B' w))
    (z : (p ≤ 2 * tka g i + 8 ∧ q ≤ tka g i + 9 ∧ 3 * K.length ≤ tka g i + 10) ∧ 5 * d ≤ tka g i + 10 + n ∧ 2 * s ≤ tka g i + 10) (hln : l ≤ n ∧ LB A l p d) (hBd : 3301 + 20 * (14 - n) ≤ Bd)
    (hE : ∀ ch x a2 a4 wn1 i1 p1 C1 q1 d1 r1 R1 K1 s1 A1 e1 e1' Y v w, (a4 = 0 ∨ a4 = 1) → wy l (a2 ||| a1) wn1 → CQ g i n p C q d R K k s l b A e e' ch x i1 p1 C1 q1 d1 r1 R1 K1 s1 A1 e1 e1' Y v w → jn g l Bd Q (fX8_choose_b193 B a1 a2 x a4 v) (chR B' (nI q) a4 wn1 w)) :
    ∀ t c ch x a2 a4 wn1 i1 p1 C1 q1 d1 r1 R1 K1 s1 A1 e1 e1' Y v w N1 N2, gm g - i1 = t → t < N1 → t < N2 → c + i ≤ i1 → (a4 = 0 ∨ a4 = 1) → wy l (a2 ||| a1) wn1 → CQ g i n p C q d R K k s l b A e e' ch x i1 p1 C1 q1 d1 r1 R1 K1 s1 A1 e1 e1' Y v w → jn g l Bd Q (fX8_choose_L37 B N1 a1 a2 x a4 (nI c) v) (fX12_choose_L47 B' N2 wn1 (nI q) a4 w) := by
  have hL := ok.1
  have hm3 := ok.2.2.1.2.2
  intro t
  induction t using Nat.strongRecOn with
  | ind t ih =>
    intro c ch x a2 a4 wn1 i1 p1 C1 q1 d1 r1 R1 K1 s1 A1 e1 e1' Y v w N1 N2 ht hN1 hN2 hc h4 hw X
    obtain ⟨N1, rfl⟩ : ∃ y, N1 = y + 1 := ⟨N1 - 1, by omega⟩
    obtain ⟨N2, rfl⟩ : ∃ y, N2 = y + 1 := ⟨N2 - 1, by omega⟩
    have S := X.1
    have hi1 := (St_im S).1
    have hq4 : q < 4000 := by have := tka_L ok i; omega
    rw [fX8_choose_L37, if_neg (show ¬ (3000 : Int32) ≤ nI c from ni_nle (a := 3000) (by omega) (by omega)), c_kind S, fX12_choose_L47]
    by_cases c324 : tkc g i1 = 324
    · obtain ⟨v1, a1', s1'⟩ := c_adv ok S (by rw [c324]; decide) (by rw [c324]; decide)
      obtain ⟨w2, b2, s2⟩ := r_skip (c := 324) (x := 48) ok s1' rfl (by decide) c324 (by decide) (by decide)
      have hi2 := (St_im s2).1
      obtain ⟨M1, rfl⟩ : ∃ y, N1 = y + 1 := ⟨N1 - 1, by omega⟩
      obtain ⟨M2, rfl⟩ : ∃ y, N2 = y + 1 := ⟨N2 - 1, by omega⟩
      rw [if_pos c324, a1', q_bv_s, b2, q_bd_s, if_neg (show ¬ (1 : Int32) = 0 by decide)]
      refine t_when (i1 := i1) ok hn hn2 hB hxB hyB z hln X s2 c324 h4 hw hBd (fun f p a b c d e v h => x_cL ok h) (fun f p a c w h => rG_le (y_cL hq4 (by omega) h) (by omega)) (fun a2 a4 wn1 i2 pa p2 C2 q2 d2 r2 R2 K2 s2 A2 e2 e2' Y v w k4 kw hlt X2 => ?_)
      have hi2 := (St_im X2.1).1
      exact ih (gm g - i2) (by omega) (c + 1) _ _ a2 a4 wn1 i2 p2 C2 q2 d2 r2 R2 K2 s2 A2 e2 e2' _ v w (M1 + 1) (M2 + 1) rfl (by omega) (by omega) (by omega) k4 kw X2
    · rw [if_neg c324, r_skipN (c := 324) (x := 48) ok S rfl (by decide) c324, q_bd_s, if_pos rfl]
      exact hE ch x a2 a4 wn1 i1 p1 C1 q1 d1 r1 R1 K1 s1 A1 e1 e1' Y v w h4 hw X
set_option maxHeartbeats 200000 in
theorem b_p {p pE p1 px t t1 tE tE1 ti t2 : Nat} (h1 : pE + 2 * t1 ≤ p + 2 * tE) (h2 : p1 + 2 * tE1 ≤ pE + 2 * ti) (h3 : px + 2 * ti ≤ p1 + 2 + 2 * t2) (h4 : t + 2 ≤ t1) (h5 : tE < tE1) : px + 2 * t + 4 ≤ p + 2 * t2 := by omega
set_option maxHeartbeats 200000 in
theorem b_q {p pE p1 px t t1 tE tE1 ti t2 : Nat} (h1 : pE + t1 ≤ p + tE) (h2 : p1 + tE1 ≤ pE + ti) (h3 : px + ti ≤ p1 + 1 + t2) (h4 : t + 2 ≤ t1) (h5 : tE < tE1) : px + t + 2 ≤ p + t2 := by omega
set_option maxHeartbeats 200000 in
theorem b_k {p pE p1 px t t1 tE tE1 ti t2 : Nat} (h1 : 3 * pE + t1 ≤ 3 * p + tE) (h2 : 3 * p1 + tE1 ≤ 3 * pE + ti) (h3 : 3 * px + ti ≤ 3 * p1 + t2) (h4 : t + 2 ≤ t1) (h5 : tE < tE1) : 3 * px + t ≤ 3 * p + t2 := by omega
set_option maxHeartbeats 200000 in
theorem b_d {p p1 px t t1 tE tE1 ti t2 c : Nat} (h1 : t1 ≤ tE) (h2 : c * p1 + tE1 ≤ c * p + ti) (h3 : c * px + ti ≤ c * p1 + t2) (h4 : t + 2 ≤ t1) (h5 : tE < tE1) : c * px + t ≤ c * p + t2 := by omega
set_option maxHeartbeats 200000 in
/-- the end of a choose -/
theorem ch_fin {hb iE pE qE eE eE' i1 p1 q1 d1 s1 e1 e1' i2 px qx d2 s2 e2 e2' : Nat} {CE C1 C2 : Nat → Int32} {aE rE' r1 r2 x a1 o2 a4 : Int32} {zf : Int64} {RE R1 R2 : Nat → Nat → Int32} {KE K1 K2 : rd_K} {A1 A2 : rd_A} {Y Y2 : rd_Y} {ch : List Nat} {vE wE v1 w1 : q_V} (ok : rd_ok g) (hn2 : n + 1 ≤ 14) (hhb : hb + 2 * n ≤ 142) (h0 : 1 ≤ hb) (hc : tkc g i = 323) (cE : tkc g iE = 123) (z : z1 g n i p q K.length d s)
    (E : EQ g (i + 1) n p C q d 0 R K k s l b A e e' hb aE iE pE CE qE rE' RE KE eE eE' vE wE) (X : CQ g (iE + 1) n pE CE qE d RE KE k s l b A eE eE' ch x i1 p1 C1 q1 d1 r1 R1 K1 s1 A1 e1 e1' Y v1 w1)
    (S : St g i2 (n + 1) px C2 i2 (n + 1) qx d2 r2 R2 K2 k s2 l b A2 e2 e2' v w) (L1 : i1 ≤ i2 ∧ px + 2 * tka g i1 ≤ p1 + 2 + 2 * tka g i2 ∧ qx + tka g i1 ≤ q1 + 1 + tka g i2 ∧ 3 * K2.length + tka g i1 ≤ 3 * K1.length + tka g i2 ∧ 5 * d2 + tka g i1 ≤ 5 * d1 + tka g i2 ∧ 2 * s2 + tka g i1 ≤ 2 * s1 + tka g i2 ∧ p1 + 2 ≤ px ∧ q1 + 1 ≤ qx ∧ d1 ≤ d2 ∧ s1 ≤ s2)
    (L2 : (∀ y, y < p1 + 2 → C2 y = upd (upd C1 p1 26) (p1 + 1) 1 y) ∧ (∀ j y, j < 3 → y < q1 + 1 → R2 j y = rE R1 q1 4 0 0 j y) ∧ (∀ j y, 3 ≤ j → y < d1 → R2 j y = R1 j y) ∧ ∃ t, K2 = t ++ K1) (L3 : ∀ u, i1 ≤ u → u < i2 → tkc g u ≠ 300) (L4 : A2.1 = A1.1 ∧ (wl A1 → wl A2)) (L5 : e2 ≤ e1 ∧ e2' ≤ e1') (L6 : ov g i2 s2 e2 e2') (L7 : ∀ y, q1 + 1 ≤ y → y < qx → R2 0 y = 41 → R2 1 y ≠ -1)
    (L8 : ∀ T XL, hT g T → ag g T C2 R2 K2 (p1 + 2) px (q1 + 1) qx d1 d2 → e2 = rd_N → (∀ y, y ∈ Y2 → XL (nI y.1) (nI y.2.1) y.2.2.1) → dv_S T XL n (lsO A.1 b (l - b)) (p1 + 2) px (q1 + 1) qx ∧ ∀ y, y ∈ Y2 → lok T XL y) (hw : wy l ((o2 ||| a1) ||| (if a4 = 0 then 1 else 0)) zf) :
    jn g l (3300 + 20 * (15 - n)) (SPT g n i p C q d R K k s l b A e e') (fX8_choose_b247 B a1 o2 x a4 v) (fX12_choose_b203 B' zf (nI qE) w) := by
  obtain ⟨⟨z1, z2, z3⟩, zd, zs⟩ := z
  obtain ⟨SE, ⟨Ea, Eb, Ec, Ed, Ee, Ef⟩, ⟨E7, E8, E9, t1, E10⟩, E11, _, ⟨E15, E15'⟩, E16, E17⟩ := E
  obtain ⟨X0, ⟨Xa, Xb, Xc, Xd, Xe, Xf, Xg, Xh, Xi, Xj⟩, ⟨x1, x2, x3, t2, x4⟩, x5, ⟨x6, x8⟩, ⟨x9, x9'⟩, x10, x11, ⟨x12, x13, x14⟩, x15⟩ := X
  obtain ⟨La, Lb, Lc, Ld, Le, Lf, Lg, Lh, Li, Lj⟩ := L1
  obtain ⟨I1, I2, I3, t3, I4⟩ := L2
  have hL := ok.1
  have hi2 := (St_im S).1
  have ta2 := tka_L ok i2
  have him : i + 1 ≤ gm g := by omega
  have t0 : tka g i + 2 ≤ tka g (i + 1) := by
    have h1 := (tk_kl (kw := kw_c) (j := 23) (k := 1) ok.2.1 ok.1 (by omega) hc ((kw_len 23 (by omega)).1)).1
    have h2 := tk_al (tp := g.1) ok.1 (i + 1)
    unfold tka; unfold gL at *; omega
  have tE := tka_lt ok (show iE < iE + 1 by omega) (by omega)
  have tE' : tka g (i + 1) ≤ tka g iE := by
    have := tka_lt ok Ea (by omega); omega
  have P1 : px + 2 * tka g i + 4 ≤ p + 2 * tka g i2 := b_p Eb Xb Lb t0 tE
  have P2 : qx + tka g i + 2 ≤ q + tka g i2 := b_q Ec Xc Lc t0 tE
  have P3 : 3 * K2.length + tka g i ≤ 3 * K.length + tka g i2 := b_k Ed Xd Ld t0 tE
  have P4 : 5 * d2 + tka g i ≤ 5 * d + tka g i2 := b_d tE' Xe Le t0 tE
  have P5 : 2 * s2 + tka g i ≤ 2 * s + tka g i2 := b_d tE' Xf Lf t0 tE
  clear Eb Ec Ed Xb Xc Xd Xe Xf Lb Lc Ld Le Lf tE tE' t0 zd zs z3
  have hpx : px + 4 ≤ 2 * gL g + 16 := by omega
  have hqx : qx < 3100 := by omega
  clear z1 z2 ta2
  obtain ⟨v3, a3, s3⟩ := c_chain (x1 := x) (y := nI px) ok ch x 0 q_N C2 v S (chn_c ch x (fun a ha => by have := x13 a ha; rw [I1 a (by omega), upd_ne (by omega), upd_ne (by omega)]) x12) (fun a ha => by have := x13 a ha; omega) (by omega) (by unfold q_N; omega)
  obtain ⟨v4, a4', s4⟩ := c_end s3
  unfold fX8_choose_b247 fX8_choose_b291 fX12_choose_b203
  have e3 : fX0_setChain x (nI px) v = some v3 := a3
  rw [c_size S, q_bd_s, e3, q_bv_s, a4', q_bv_s]
  by_cases c125 : tkc g i2 = 125
  · obtain ⟨v5, a5, s5⟩ := c_exp ok s4 c125 (by decide) (by decide)
    obtain ⟨w6, b6, s6⟩ := r_takeS (c := 125) ok s5 rfl (by decide) c125 (by decide) (by decide)
    have s7 := r_un s6
    obtain ⟨w8, b8, s8⟩ := r_paw (B' := B') (x := nI qE) (y := zf) (qx - qE) qE q_N _ _ s7 (by omega) (by omega) (by unfold q_N; omega)
    have hi3 := (St_im s8).1
    have t5 := tka_lt ok (show i2 < i2 + 1 by omega) hi3
    have BD : i < i2 + 1 ∧ px + 2 * tka g i ≤ p + 2 * tka g (i2 + 1) ∧ qx + tka g i ≤ q + tka g (i2 + 1) ∧ 3 * K2.length + tka g i ≤ 3 * K.length + tka g (i2 + 1) ∧ 5 * d2 + tka g i ≤ 5 * d + tka g (i2 + 1) ∧ 2 * s2 + tka g i ≤ 2 * s + tka g (i2 + 1) ∧ p ≤ px ∧ q ≤ qx ∧ d ≤ d2 ∧ s ≤ s2 ∧ k ≤ k := ⟨by omega, by omega, by omega, by omega, by omega, by omega, by omega, by omega, by omega, by omega, by omega⟩
    have BD2 : px + 2 * tka g i + 2 ≤ p + 2 * tka g (i2 + 1) ∧ qx + tka g i + 1 ≤ q + tka g (i2 + 1) := ⟨by omega, by omega⟩
    rw [a5, q_bv_s, b6, q_bv_s, q_lt_s, b8]
    have ew : (if a4 = 0 then some (o2 ||| a1 ||| 1, v5) else some (o2 ||| a1 ||| 0, v5)) = some (o2 ||| a1 ||| (if a4 = 0 then 1 else 0), v5) := by split <;> rfl
    rw [ew]
    clear t5 P1 P2 P3 P4 P5 hpx
    have nin : ∀ y, p1 ≤ y → y ∉ ch := fun y h1 u => by have := x13 y u; omega
    have ninE : ∀ y, y < pE → y ∉ ch := fun y h1 u => by have := x13 y u; omega
    have pe : ∀ j y, (j ≠ 1 ∨ y < qE) → pawr (nI qE) qE qx R2 j y = R2 j y := fun j y hj => if_neg (fun u => by
      rcases hj with hj | hj
      · exact hj u.1
      · have := u.2.1; omega)
    have peB : ∀ j y, q1 + 1 ≤ y → y < qx → pawr (nI qE) qE qx R2 j y = R2 j y := fun j y h1 h2 => if_neg (fun u => L7 y h1 h2 u.2.2.2.1 u.2.2.2.2.1)
    have kC1 : ∀ y, y < p1 → C2 y = C1 y := fun y hy => by rw [I1 y (by omega), upd_ne (by omega), upd_ne (by omega)]
    have kR1 : ∀ y, y < q1 → ∀ j, j < 3 → R2 j y = R1 j y := fun y hy j hj => by rw [I2 j y hj (by omega), rE_x (by omega)]
    refine jn_qq ⟨i2 + 1, px, _, qx, d2, r2, _, K2, k, s2, A2, e2, e2', Y2 ++ Y, ⟨s8, BD, ⟨fun y hy => ?_, fun j y hj hy => ?_, fun j y hj hy => ?_, t3 ++ (t2 ++ t1), by rw [I4, x4, E10, List.append_assoc, List.append_assoc]⟩, fun u h1 h2 => ?_, ⟨L4.1.trans x6, hw, fun y => L4.2 (x8 y)⟩, ⟨by omega, by omega⟩, ov_m ok L6 (by omega) hi3 (Nat.le_refl _) (Nat.le_refl _), fun y h1 h2 => ?_, fun T XL g1 g2 g3 g4 => ?_⟩, BD2⟩
    · rw [ups_x _ _ (ninE y (by omega)), kC1 y (by omega), x1 y (by omega)]; exact E7 y hy
    · rw [pe j y (by omega), kR1 y (by omega) j hj, x2 j y hj (by omega)]; exact E8 j y hj hy
    · rw [pe j y (by omega), I3 j y hj (by omega), x3 j y hj (by omega), E9 j hj]
    · by_cases c1 : u = i
      · rw [c1, hc]; decide
      · by_cases c2 : u < iE
        · exact E11 u (by omega) c2
        · by_cases c3 : u = iE
          · rw [c3, cE]; decide
          · by_cases c4 : u < i1
            · exact x5 u (by omega) c4
            · by_cases c5 : u = i2
              · rw [c5, c125]; decide
              · exact L3 u (by omega) (by omega)
    · rw [pe 0 y (by omega)]
      intro u
      by_cases c1 : y < qE
      · rw [kR1 y (by omega) 0 (by omega), x2 0 y (by omega) c1] at u
        exact absurd u (i30 (E16 y h1 c1))
      · by_cases c2 : y < q1
        · unfold pawr
          rw [kR1 y c2 0 (by omega)] at u ⊢
          rw [kR1 y c2 1 (by omega), kR1 y c2 2 (by omega)]
          by_cases c3 : R1 1 y = -1
          · rw [if_pos ⟨rfl, by omega, h2, u, c3, x11 y (by omega) c2 u c3⟩]; exact m1_n (by omega)
          · rw [if_neg (fun t => c3 t.2.2.2.2.1)]; exact c3
        · by_cases c3 : y = q1
          · rw [c3, I2 0 q1 (by omega) (by omega), rE_0, upd_at] at u
            exact absurd u (by decide)
          · rw [peB 1 y (by omega) h2]; exact L7 y (by omega) h2 u
    · have c0 := ag_c g2 (show p ≤ p1 by omega) (by omega)
      have c1 := ag_c g2 (show p ≤ p1 + 1 by omega) (by omega)
      have r0 := ag_r0 g2 (show q ≤ q1 by omega) (by omega)
      rw [ups_x _ _ (nin p1 (by omega)), I1 p1 (by omega), upd_ne (by omega), upd_at] at c0
      rw [ups_x _ _ (nin (p1 + 1) (by omega)), I1 (p1 + 1) (by omega), upd_at] at c1
      rw [pe 0 q1 (by omega), I2 0 q1 (by omega) (by omega), rE_0, upd_at] at r0
      have y1 := E17 T XL g1 (ag_E g2 (Nat.le_refl _) (by omega) (Nat.le_refl _) (by omega) (fun y _ hy => by rw [ups_x _ _ (ninE y hy), kC1 y (by omega), x1 y hy]) (fun j y hj _ hy => by rw [pe j y (by omega), kR1 y (by omega) j hj, x2 j y hj hy]) (fun y hy => by rw [I4, x4]; exact List.mem_append_right _ (List.mem_append_right _ hy))) (by have := bl_le SE.2.2.2.2.2.2.1; omega)
      have y2 := x15 px qx T XL g1 (ag_S g2 (by omega) (by omega) (by omega) (by omega) (Nat.le_refl _) (by omega) (fun y h1 h2 => by
        by_cases c : y ∈ ch
        · rw [ups_in _ _ c, ups_in _ _ c]
        · rw [ups_x _ _ c, ups_x _ _ c, kC1 y h2]) (fun j y hj h1 h2 => by
          unfold pawr paw
          rw [kR1 y h2 0 (by omega), kR1 y h2 1 (by omega), kR1 y h2 2 (by omega), kR1 y h2 j hj]
          by_cases c : j = 1 ∧ R1 0 y = 41 ∧ R1 1 y = -1 ∧ R1 2 y = nI qE
          · rw [if_pos c, if_pos ⟨c.1, h1, by omega, c.2⟩]
          · rw [if_neg c, if_neg (fun u => c ⟨u.1, u.2.2.2⟩)]) (fun j y hj h1 h2 => by rw [pe j y (by omega), paw_n (fun u => absurd u.1 (by omega)), I3 j y hj h2]) (fun y hy => by rw [I4]; exact List.mem_append_right _ hy)) (by have := bl_le X0.2.2.2.2.2.2.1; omega) (fun y hy => g4 y (List.mem_append_right _ hy))
      have y3 := L8 T XL g1 (ag_S g2 (by omega) (Nat.le_refl _) (by omega) (Nat.le_refl _) (by omega) (Nat.le_refl _) (fun y h1 h2 => by rw [ups_x _ _ (nin y (by omega))]) (fun j y hj h1 h2 => peB j y h1 h2) (fun j y hj h1 h2 => pe j y (by omega)) (fun y hy => hy)) g3 (fun y hy => g4 y (List.mem_append_left _ hy))
      refine ⟨fun Fin a S f0 H => ru_CHOOSE (y1 Fin a S f0 H) hhb h0 hn2 (y2.1 Fin a S f0 H) c0 c1 r0 (y3.1 Fin a S f0 H), fun y hy => ?_⟩
      rcases List.mem_append.1 hy with hy | hy
      · exact y3.2 y hy
      · exact y2.2 y hy
  · obtain ⟨v5, a5, x5'⟩ := c_expX s4 c125
    obtain ⟨w6, b6, y6⟩ := r_takeSX (c := 125) (Bd := 3111) ok S rfl (by decide) c125 (by omega)
    rw [a5, q_bv_s, b6, q_bv_s, q_lt_s]
    have h2 := xr_i (k := 2411) (x := q_i w6 2411 - 1) y6 (by omega)
    obtain ⟨qq, h5, h6⟩ := h2.2.2.2.2
    exact jn_xx (cG_i (fun _ => cG_s x5') (fun _ => cG_s x5')) (rG_le (y_paw h5 (by omega) (qq - qE) qE q_N _ h2 h6 (by omega) rfl (by unfold q_N; omega)) (by omega))
end
