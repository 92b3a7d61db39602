section
variable {g : rd_G} {i n p q d k s l b e e' : Nat} {C : Nat → Int32} {r : Int32} {R : Nat → Nat → Int32} {K : rd_K} {A : rd_A} {v w : q_V} {T : co_T} {XL : Int32 → Int32 → Int32 → Prop}
set_option maxHeartbeats 200000 in
theorem q_bd_v {α β : Type} {X : Option q_V} {k : q_V → Option (α × q_V)} {f : α → q_V → Option (β × q_V)} : q_bd (q_bv X k) f = q_bv X (fun v => q_bd (k v) f) := by cases X <;> rfl
set_option maxHeartbeats 200000 in
theorem q_bd_d {α β γ : Type} {X : Option (γ × q_V)} {k : γ → q_V → Option (α × q_V)} {f : α → q_V → Option (β × q_V)} : q_bd (q_bd X k) f = q_bd X (fun a v => q_bd (k a v) f) := by
  cases X with
  | none => rfl
  | some x => cases x; rfl
set_option maxHeartbeats 200000 in
theorem i30 {x : Int32} (h : x < 30) : x ≠ 41 := by intro z; rw [z] at h; exact absurd h (by decide)
set_option maxHeartbeats 200000 in
/-- E's and an order behind them, and the ; -/
theorem mkT {hb m i1 p1 q1 e1 e1' : Nat} {C1 : Nat → Int32} {r1 x y o : Int32} {z : Int64} {R1 : Nat → Nat → Int32} {K1 : rd_K} {v1 w1 : q_V} (ok : rd_ok g) (X : AQ g 3 i n p C q d R K k s l b A e e' m hb i1 p1 C1 q1 r1 R1 K1 e1 e1' v1 w1) (S : St g (i1 + 1) n (p1 + 1) (upd C1 p1 x) (i1 + 1) n (q1 + 1) d r1 (rE R1 q1 y 0 0) K1 k s l b A e1 e1' v w) (hc : tkc g i1 ≠ 300) (hov : ov g i s e e') (sl : p1 + 2 * tka g i + 2 ≤ p + 2 * tka g i1 ∧ q1 + tka g i + 1 ≤ q + tka g i1) (hw : wy l o z) (hm : m ≤ 3) (hy : y ≠ 41) (H : ∀ T XL, dv_A T XL m hb p p1 q q1 → co_c T p1 x → co_r T 0 q1 y → dv_T T XL n (lsO A.1 b (l - b)) p (p1 + 1) q (q1 + 1)) : SPT g n i p C q d R K k s l b A e e' o v z w := by
  obtain ⟨X0, ⟨X1, X2, X3, X4, X5, X6⟩, ⟨X7, X8, X9, X10⟩, X11, X12, X13, X14⟩ := X
  have hi1 := (St_im S).1
  have t := tka_lt ok (show i1 < i1 + 1 by omega) hi1
  refine ⟨i1 + 1, p1 + 1, _, q1 + 1, d, r1, _, K1, k, s, A, e1, e1', [], ⟨S, ⟨by omega, by omega, by omega, by omega, by omega, by omega, by omega, by omega, by omega, by omega, by omega⟩, ⟨fun x hx => by rw [upd_ne (by omega)]; exact X7 x hx, fun j x hj hx => by rw [rE_x (by omega)]; exact X8 j x hj hx, fun j x hj _ => by rw [rE_j hj, X9 j hj], X10⟩, fun u h1 h2 => ?_, ⟨rfl, hw, fun z => z⟩, X12, ov_m ok hov (by omega) hi1 X12.1 X12.2, fun x h1 h2 => ?_, fun T XL x1 x2 x3 x4 => ⟨?_, fun y hy => absurd hy (by simp)⟩⟩, by omega, by omega⟩
  · by_cases c : u = i1
    · rw [c]; exact hc
    · exact X11 u h1 (by omega)
  · by_cases c : x = q1
    · rw [c, rE_0, upd_at]; exact fun z => absurd z hy
    · rw [rE_x c]; exact fun z => absurd z (i30 (X14.1 x h1 (by omega)))
  · have c0 := ag_c x2 (show p ≤ p1 by omega) (by omega)
    have r0 := ag_r0 x2 (show q ≤ q1 by omega) (by omega)
    rw [upd_at] at c0
    rw [rE_0, upd_at] at r0
    refine H T XL (X14.2 T XL x1 ?_ x3 hm) c0 r0
    exact ag_E x2 (Nat.le_refl _) (by omega) (Nat.le_refl _) (by omega) (fun x _ hx => upd_ne (by omega)) (fun j x _ _ hx => rE_x (by omega)) (fun m hm => hm)
set_option maxHeartbeats 200000 in
theorem tr_of {x : Int32} : fX8_troubleOf x v = some (if x &&& 1 = 0 then 0 else 4, v) := by
  unfold fX8_troubleOf fX8_troubleOf_b11
  split <;> rfl
set_option maxHeartbeats 200000 in
theorem or_1 {x a : Int32} (h : a = 0 ∨ a = 1 ∨ a = 2) : ((x ||| a) &&& 1 = 0) ↔ (x &&& 1 = 0 ∧ a ≠ 1) := by
  rw [b0_32, b0_32, Int32.toBitVec_or, BitVec.getLsbD_or]
  rcases h with h | h | h
  · subst h
    have : (0 : Int32).toBitVec.getLsbD 0 = false := by decide
    rw [this, Bool.or_false]; exact ⟨fun z => ⟨z, by decide⟩, fun z => z.1⟩
  · subst h
    have : (1 : Int32).toBitVec.getLsbD 0 = true := by decide
    rw [this, Bool.or_true]; exact ⟨fun z => absurd z (by decide), fun z => absurd rfl z.2⟩
  · subst h
    have : (2 : Int32).toBitVec.getLsbD 0 = false := by decide
    rw [this, Bool.or_false]; exact ⟨fun z => ⟨z, by decide⟩, fun z => z.1⟩
set_option maxHeartbeats 200000 in
/-- what trouble a nature adds -/
theorem wy_tr {W : Int32} {W' : Int64} {x r1 : Int32} (h : wy l W W') (hx : x &&& 1 = 0 ↔ r1 = 0) : wy l (W ||| (if x &&& 1 = 0 then 0 else 4)) (if r1 = 0 then W' else W' ||| 4) := by
  by_cases c : r1 = 0
  · rw [if_pos c, if_pos (hx.2 c), show W ||| 0 = W from Int32.or_zero]; exact h
  · rw [if_neg c, if_neg (fun z => c (hx.1 z))]; exact wy_or h wy_k.2.2.2.1
set_option maxHeartbeats 200000 in
theorem t_order {x y W : Int32} {W' : Int64} {m : Nat} (ok : rd_ok g) (hn : 1 ≤ n) (hn2 : n ≤ 14) (hm : 1 ≤ m) (hm3 : m ≤ 3) (hc : tkc g i ≠ 261 ∧ tkc g i ≠ 262 ∧ tkc g i ≠ 300) (hw : ∀ l, wy l W W') (hy : y ≠ 41) {fin : Int64 → q_V → Option (Int64 × q_V)} (hf : ∀ w r, q_i w 2425 = r → fin W' w = some (if r = 0 then W' else W' ||| 4, w)) (hfx : ∀ f p B z w, xr g f p B w → rG g f p B (fin z w))
    (H : ∀ T XL nu L p p1 q q1 hb, hb + 2 * nu ≤ 142 → m ≤ hb → dv_A T XL m hb p p1 q q1 → co_c T p1 x → co_r T 0 q1 y → dv_T T XL nu L p (p1 + 1) q (q1 + 1)) : TS g n i (fX8_order x (nI m) W) (fun w => q_bd (fX12_order (nI m) y W' w) fin) := by
  intro p C q d R K k s l b A e e' v w h z o hln
  obtain ⟨z, zd, zs⟩ := z
  have zp := z0_p ok z
  obtain ⟨v1, a1, s1⟩ := c_adv ok h hc.1 hc.2.1
  have s2 := r_now ok s1 hc.1 hc.2.1
  have him := (St_im s2).1
  have hL := ok.1
  have hm3' := ok.2.2.1.2.2
  have X0 := AQ_0 (M := 3) (i := i) (hb := 10 * (14 - n) + 6) ok s2 (by omega) (fun u h1 h2 => by rw [show u = i by omega]; exact hc.2.2) (Or.inl rfl)
  have tcE : ∀ f p v, xc g f p l v → ∀ nt, cG g f p l (q_bd (fX0_add x v) (fun _ T => q_bv (fX9_expect 59 T) (fun T => q_bd (fX8_troubleOf nt T) (fun y T => some (W ||| y, T))))) := by
    intro f p v h nt
    exact cG_d (x_add ok h) (fun a v h => cG_v (x_exp h) (fun v h => by rw [tr_of, q_bd_s]; exact cG_s h))
  have tcL : ∀ N f p v, xc g f p l v → ∀ nt c, m < c + N → c ≤ m → cG g f p l (fX8_order_L19 x (nI m) W N nt (nI c) v) := by
    intro N
    induction N with
    | zero => intro f p v _ nt c h1 h2; omega
    | succ N ih =>
      intro f p v h nt c h1 h2
      rw [fX8_order_L19]
      by_cases cc : m ≤ c
      · rw [if_pos (ni_ple cc (by omega))]; exact tcE f p v h nt
      · rw [if_neg (ni_nle (by omega) (by omega))]
        refine cG_v (x_exp h) (fun v h => cG_d (x_E h) (fun a v h => ?_))
        rw [q_lt_s, q_lt_s, ni_add1]
        exact ih f p v h _ (c + 1) (by omega) (by omega)
  have trE : ∀ f p B w, xr g f p B w → B < 4000 → B + 1 ≤ 3300 + 20 * (15 - n) → rG g f p (3300 + 20 * (15 - n)) (q_bd (q_bv (fX12_takeSign 59 w) (fun T => q_bd (fX12_emit y 0 0 T) (fun _ T => some (W', T)))) fin) := by
    intro f p B w h h1 h2
    rw [q_bd_v]
    refine rG_v (y_takeS h) (fun w h => ?_)
    rw [q_bd_d]
    refine rG_d (y_emit h1 h) (fun a w h => ?_)
    rw [q_bd_s]; exact hfx _ _ _ _ _ (xr_le h h2)
  have trL : ∀ N f p B w, xr g f p B w → B < 4000 → B + 1 ≤ 3300 + 20 * (15 - n) → ∀ c, m < c + N → c ≤ m → rG g f p (3300 + 20 * (15 - n)) (q_bd (fX12_order_L13 (nI m) y W' N (nI c) w) fin) := by
    intro N
    induction N with
    | zero => intro f p B w _ _ _ c h1 h2; omega
    | succ N ih =>
      intro f p B w h h1 h2 c h3 h4
      rw [fX12_order_L13]
      by_cases cc : m ≤ c
      · rw [if_pos (ni_ple cc (by omega))]; exact trE f p B w h h1 h2
      · rw [if_neg (ni_nle (by omega) (by omega))]
        have b30 : ∀ w, xr g f p B w → rG g f p (3300 + 20 * (15 - n)) (q_bd (fX12_order_b30 (nI m) y W' (nI c) (fun xn5_ S_ => fX12_order_L13 (nI m) y W' N xn5_ S_) w) fin) := by
          intro w h
          unfold fX12_order_b30
          rw [q_bd_v]
          refine rG_v (y_E h) (fun w h => ?_)
          rw [q_lt_s, ni_add1]
          exact ih f p B w h h1 h2 (c + 1) (by omega) (by omega)
        split
        · exact b30 w h
        · rw [q_bd_v]
          exact rG_v (y_takeS h) (fun w h => b30 w h)
  have go : ∀ u c nt i1 p1 C1 q1 r1 R1 K1 e1 e1' v w N1 N2, m - c = u → 1 ≤ c → c ≤ m → m < c + N1 → m < c + N2 → AQ g 3 i n p C q d R K k s l b A e e' c (10 * (14 - n) + 6) i1 p1 C1 q1 r1 R1 K1 e1 e1' v w → (nt &&& 1 = 0 ↔ r1 = 0) → (p1 + 2 * tka g i + 2 ≤ p + 2 * tka g i1 ∧ q1 + tka g i + 1 ≤ q + tka g i1) → jn g l (3300 + 20 * (15 - n)) (SPT g n i p C q d R K k s l b A e e') (fX8_order_L19 x (nI m) W N1 nt (nI c) v) (q_bd (fX12_order_L13 (nI m) y W' N2 (nI c) w) fin) := by
    intro u
    induction u with
    | zero =>
      intro c nt i1 p1 C1 q1 r1 R1 K1 e1 e1' v w N1 N2 hu hc1 hcm h1 h2 X hnt sl
      obtain ⟨N1, rfl⟩ : ∃ x, N1 = x + 1 := ⟨N1 - 1, by omega⟩
      obtain ⟨N2, rfl⟩ : ∃ x, N2 = x + 1 := ⟨N2 - 1, by omega⟩
      have ecm : c = m := by omega
      subst ecm
      have S := X.1
      have t1 := tka_L ok i1
      obtain ⟨z1, z2, z3⟩ := z
      obtain ⟨_, X2, X3, X4, _, _⟩ := X.2.1
      obtain ⟨v3, a3, s3⟩ := c_add (y := x) ok S (by omega)
      rw [fX8_order_L19, if_pos (ni_ple (Nat.le_refl _) (by omega)), fX12_order_L13, if_pos (ni_ple (Nat.le_refl _) (by omega)), a3, q_bd_s, q_bd_v]
      by_cases c59 : tkc g i1 = 59
      · obtain ⟨v4, a4, s4⟩ := c_exp ok s3 c59 (by decide) (by decide)
        obtain ⟨w4, b4, s5⟩ := r_takeS (c := 59) ok s4 rfl (by decide) c59 (by decide) (by decide)
        obtain ⟨w6, b6, s6⟩ := r_emit (o := y) (a := 0) (c := 0) s5 (by omega)
        rw [a4, q_bv_s, tr_of, q_bd_s, b4, q_bv_s, q_bd_d, b6, q_bd_s, q_bd_s, hf w6 r1 s6.2.2.2.2.1.1.2.2.2.2.2.2]
        exact jn_qq (mkT ok X s6 (by rw [c59]; decide) o sl (wy_tr (hw l) hnt) hm3 hy (fun T XL y0 c0 r0 => H T XL n _ _ _ _ _ _ (by omega) (by omega) y0 c0 r0))
      · obtain ⟨v4, a4, x4⟩ := c_expX s3 c59
        obtain ⟨w4, b4, y4⟩ := r_takeSX (c := 59) (Bd := 3011) ok s3 rfl (by decide) c59 (by omega)
        rw [a4, q_bv_s, tr_of, q_bd_s, b4, q_bv_s, q_bd_d]
        refine jn_xx (cG_s x4) (rG_d (y_emit (by omega) y4) (fun a w h => ?_))
        rw [q_bd_s]; exact hfx _ _ _ _ _ (xr_le h (by omega))
    | succ u ih =>
      intro c nt i1 p1 C1 q1 r1 R1 K1 e1 e1' v w N1 N2 hu hc1 hcm h1 h2 X hnt sl
      obtain ⟨N1, rfl⟩ : ∃ x, N1 = x + 1 := ⟨N1 - 1, by omega⟩
      obtain ⟨N2, rfl⟩ : ∃ x, N2 = x + 1 := ⟨N2 - 1, by omega⟩
      have S := X.1
      have t1 := tka_L ok i1
      have zE : z0 g i1 p1 q1 K1.length := by
        obtain ⟨z1, z2, z3⟩ := z
        obtain ⟨_, X2, X3, X4, _, _⟩ := X.2.1
        exact ⟨by omega, by omega, by omega⟩
      have zp1 := z0_p ok zE
      rw [fX8_order_L19, if_neg (ni_nle (by omega) (by omega)), fX12_order_L13, if_neg (ni_nle (by omega) (by omega)), if_neg (show ¬ nI c ≤ 0 by rw [show (0 : Int32) = nI 0 from rfl, ni_le (by omega) (by omega)]; omega), q_bd_v]
      unfold fX12_order_b30
      by_cases c44 : tkc g i1 = 44
      · obtain ⟨v4, a4, s4⟩ := c_exp ok S c44 (by decide) (by decide)
        obtain ⟨w4, b4, s5⟩ := r_takeS (c := 44) ok s4 rfl (by decide) c44 (by decide) (by decide)
        have him3 := (St_im s5).1
        have J := US_E ok hn2 (i1 + 1) p1 C1 q1 d r1 R1 K1 k s l b A e1 e1' v4 w4 s5 (z0_s ok zE (by omega) him3) (ov_m ok o (by have := X.2.1.1; omega) him3 X.2.2.2.2.1.1 X.2.2.2.2.1.2) X.2.2.2.2.2.1
        rw [a4, q_bv_s, b4, q_bv_s, q_bd_v]
        refine jn_dv J (fun f p a v h => ?_) (fun f p w h => ?_) ?_
        · rw [q_lt_s, q_lt_s, ni_add1]; exact tcL N1 f p v h _ (c + 1) (by omega) (by omega)
        · rw [q_lt_s, ni_add1]; exact trL N2 f p _ w h (by omega) (by omega) (c + 1) (by omega) (by omega)
        · intro a v5 w5 E
          obtain ⟨i3, p3, C3, q3, r3, R3, K3, e3, e3', E⟩ := E
          have X2 := AQ_s ok X E (by omega) (fun u h1 h2 => by rw [show u = i1 by omega, c44]; decide) (by omega) X.2.2.2.2.2.1
          rw [q_lt_s, q_lt_s, ni_add1, q_lt_s]
          refine ih (c + 1) _ i3 p3 C3 q3 r3 R3 K3 e3 e3' v5 w5 N1 N2 (by omega) (by omega) (by omega) (by omega) (by omega) X2 ?_ (by obtain ⟨E1, E2, E3, _, _, _⟩ := E.2.1; have := tka_lt ok (show i1 < i1 + 1 by omega) him3; omega)
          have E5 := E.2.2.2.2.1
          rw [or_1 E5.1, hnt, E5.2.2]
          by_cases ca : a = 1
          · rw [if_pos ca]; exact ⟨fun z => absurd ca z.2, fun z => absurd z (by decide)⟩
          · rw [if_neg ca]; exact ⟨fun z => z.1, fun z => ⟨z, ca⟩⟩
      · obtain ⟨v4, a4, x4⟩ := c_expX S c44
        obtain ⟨w4, b4, y4⟩ := r_takeSX (c := 44) (Bd := 3011) ok S rfl (by decide) c44 (by omega)
        rw [a4, q_bv_s, b4, q_bv_s, q_bd_v]
        refine jn_xx (cG_d (x_E x4) (fun a v h => ?_)) (rG_v (y_E y4) (fun w h => ?_))
        · rw [q_lt_s, q_lt_s, ni_add1]; exact tcL N1 _ _ v h _ (c + 1) (by omega) (by omega)
        · rw [q_lt_s, ni_add1]; exact trL N2 _ _ _ w h (by omega) (by omega) (c + 1) (by omega) (by omega)
  have J := US_E ok hn2 (i + 1) p C q d 0 R K k s l b A e e' v1 _ s2 (z0_s ok z (by omega) him) (ov_m ok o (by omega) him (Nat.le_refl _) (Nat.le_refl _)) (Or.inl rfl)
  unfold fX8_order fX12_order
  dsimp only
  rw [a1, q_bv_s, q_lt_s, q_N1, fX12_order_L13, if_neg (show ¬ nI m ≤ 0 by rw [show (0 : Int32) = nI 0 from rfl, ni_le (by omega) (by omega)]; omega), if_pos (by decide)]
  unfold fX12_order_b30
  rw [q_bd_v]
  refine jn_dv J (fun f p a v h => ?_) (fun f p w h => ?_) ?_
  · exact tcL _ f p v h _ 1 (by omega) (by omega)
  · rw [q_lt_s]; exact trL _ f p _ w h (by omega) (by omega) 1 (by omega) (by omega)
  · intro a v5 w5 E
    obtain ⟨i3, p3, C3, q3, r3, R3, K3, e3, e3', E⟩ := E
    have X2 := AQ_s ok X0 E (Nat.le_refl _) (fun u h1 h2 => absurd h1 (by omega)) (by omega) (Or.inl rfl)
    rw [q_lt_s]
    refine go (m - 1) 1 a i3 p3 C3 q3 r3 R3 K3 e3 e3' v5 w5 _ _ rfl (by omega) (by omega) (by omega) (by omega) X2 ?_ (by obtain ⟨E1, E2, E3, _, _, _⟩ := E.2.1; have := tka_lt ok (show i < i + 1 by omega) him; omega)
    have E5 := E.2.2.2.2.1
    rw [E5.2.2]
    rcases E5.1 with ca | ca | ca <;> (rw [ca]; decide)
end
