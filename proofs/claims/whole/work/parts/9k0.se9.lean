section
variable {g : rd_G} {i j n p q d k s l b e e' : Nat} {C : Nat → Int32} {r : Int32} {R : Nat → Nat → Int32} {K : rd_K} {A : rd_A} {v w : q_V} {T : co_T} {XL : Int32 → Int32 → Int32 → Prop}
variable {B : q_V → Option (Int32 × q_V)} {B' : q_V → Option (Int64 × q_V)}
/-- repeat, behind its E -/
def rpE (B : q_V → Option (Int32 × q_V)) (w1 : Int64) (x3 y5 y8 y10 y12 y17 y22 y25 : Int32) (T24 : q_V) : Option (Int32 × q_V) :=
  q_bd (fX8_troubleOf y25 T24) (fun y27 T26 =>
  q_bd (fX0_add_ 23 y5 T26) (fun y30 T29 =>
  q_bd (fX0_size T29) (fun y33 T32 =>
  q_bv (fX8_setRound y8 y22 y33 T32) (fun T34 =>
  q_bv (fX9_expect 59 T34) (fun T36 =>
  q_lt (((y10 &&& (y12 ^^^ (- 1))) &&& (- 2)) : Int32) (fun y37 =>
  if (y10 &&& (1 ||| y17)) = 0 then
  fX8_repeatLoop_b156 B w1 x3 y10 y12 y37 T36
  else
  q_lt ((y37 ||| y27) : Int32) (fun y38 =>
  fX8_repeatLoop_b156 B w1 x3 y10 y12 y38 T36)))))))
set_option maxHeartbeats 200000 in
theorem x_156 {f p x3 a b c : Int32} {w1 : Int64} (h : xc g f p l v) : cG g f p l (fX8_repeatLoop_b156 B w1 x3 a b c v) := by
  unfold fX8_repeatLoop_b156 fX8_repeatLoop_b175
  exact cG_i (fun _ => cG_s h) (fun _ => cG_s h)
set_option maxHeartbeats 200000 in
theorem x_rpE {f p : Int32} {w1 : Int64} {x3 y5 y8 y10 y12 y17 y22 y25 : Int32} (ok : rd_ok g) (h : xc g f p l v) : cG g f p l (rpE B w1 x3 y5 y8 y10 y12 y17 y22 y25 v) := by
  unfold rpE
  rw [tr_of, q_bd_s]
  refine cG_d (x_add2 ok h) (fun a v h => cG_d (x_size h) (fun a v h => cG_v (x_sr ok h) (fun v h => cG_v (x_exp h) (fun v h => ?_))))
  exact cG_i (fun _ => x_156 h) (fun _ => x_156 h)
/-- until, behind its E -/
def rpT (d x3 x4 : Int32) (w5 : Int64) (T8 : q_V) : Option (Int64 × q_V) :=
  q_bv (fX12_takeSign 59 T8) (fun T9 =>
  q_bd (fX12_emit 57 d x3 T9) (fun _ T10 =>
  q_bd (if x4 = 0 then some (w5, T10) else fX12_risky w5 T10) (fun z T =>
  if d < 0 ∨ 640 ≤ d.toNatClampNeg then none else
  some (z, q_sa T 2420 (upd (q_a T 2420) d.toNatClampNeg (q_i T 2417))))))
/-- until -/
def rpU (d x2 x3 x4 : Int32) (w5 : Int64) (T : q_V) : Option (Int64 × q_V) :=
  q_bv (fX12_take 46 T) (fun T1 =>
  if d < 0 ∨ 640 ≤ d.toNatClampNeg then none else
  q_lt (q_sa T1 2418 (upd (q_a T1 2418) d.toNatClampNeg (q_i T1 2417))) (fun T3 =>
  if x2 < 0 ∨ 3002 ≤ x2.toNatClampNeg then none else
  q_bd (fX12_emit 55 (q_a T3 2405 x2.toNatClampNeg) 0 T3) (fun _ T5 =>
  q_bv (fX12_expression_t (q_si T5 2425 0)) (fun T8 => rpT d x3 x4 w5 T8))))
set_option maxHeartbeats 200000 in
theorem rpU_eq {d x1 x2 x3 x4 : Int32} {w2 w5 : Int64} : q_bd (fX12_until d x2 x3 x4 w5 w) (fun z T => fX12_loop_b416 B' x1 w2 d z T) = rpU d x2 x3 x4 w5 w := by
  unfold fX12_until rpU rpT fX12_until_b70 fX12_loop_b416
  by_cases c : x4 = 0
  · simp only [q_lt_s, q_bd_v, q_bd_n, q_bd_d, q_bd_s, if_pos c]
  · simp only [q_lt_s, q_bd_v, q_bd_n, q_bd_d, q_bd_s, if_neg c]
set_option maxHeartbeats 200000 in
theorem rrE_1 {xn4 xn5 xn7 x1 : Int32} {w2 z : Int64} : rrE x1 w2 B' xn4 xn5 1 xn7 0 z w = rpU xn4 x1 xn7 (if z &&& (1 ||| ((1048576 : Int64) <<< ((q_i (q_si w 2441 xn5) 2445 : Int32).toInt64 &&& 63))) = 0 then 0 else 1) ((0 ||| (z &&& (((1 ||| ((8 : Int64) <<< ((q_i (q_si w 2441 xn5) 2445 : Int32).toInt64 &&& 63))) ||| ((1048576 : Int64) <<< ((q_i (q_si w 2441 xn5) 2445 : Int32).toInt64 &&& 63))) ^^^ (-1)))) ||| (if z &&& ((1 ||| ((8 : Int64) <<< ((q_i (q_si w 2441 xn5) 2445 : Int32).toInt64 &&& 63))) ||| ((1048576 : Int64) <<< ((q_i (q_si w 2441 xn5) 2445 : Int32).toInt64 &&& 63))) = 0 then 0 else 1)) (q_si w 2441 xn5) := by
  unfold rrE fX12_loop_b373 fX12_loop_b378 fX12_loop_b409
  simp only [q_lt_s, lg_if0, rpU_eq, if_neg (show ¬ (1 : Int32) = 0 by decide)]
  generalize z &&& (1 ||| ((1048576 : Int64) <<< ((q_i (q_si w 2441 xn5) 2445 : Int32).toInt64 &&& 63))) = z1
  generalize z &&& ((1 ||| ((8 : Int64) <<< ((q_i (q_si w 2441 xn5) 2445 : Int32).toInt64 &&& 63))) ||| ((1048576 : Int64) <<< ((q_i (q_si w 2441 xn5) 2445 : Int32).toInt64 &&& 63))) = z2
  by_cases c1 : z1 = 0
  · by_cases c2 : z2 = 0
    · simp only [if_pos c1, if_pos c2]
    · simp only [if_pos c1, if_neg c2]
  · by_cases c2 : z2 = 0
    · simp only [if_neg c1, if_pos c2]
    · simp only [if_neg c1, if_neg c2]
set_option maxHeartbeats 200000 in
theorem y_rpT {f p : Int32} {Bd dd : Nat} {x3 x4 : Int32} {w5 : Int64} (hd : dd < 640) (hB : Bd < 4000) (h : xr g f p Bd w) : rG g f p (Bd + 1) (rpT (nI dd) x3 x4 w5 w) := by
  unfold rpT
  refine rG_v (y_takeS h) (fun w h => rG_d (y_emit hB h) (fun a w h => ?_))
  refine rG_d (B1 := Bd + 1) (rG_i (fun _ => rG_s h) (fun _ => y_risky h)) (fun a w h => ?_)
  rw [if_neg (in6 hd)]
  exact rG_s (xr_a h (by omega))
set_option maxHeartbeats 200000 in
theorem y_rpU {f p : Int32} {Bd dd ii : Nat} {x3 x4 : Int32} {w5 : Int64} (hd : dd < 640) (hi : ii < 3002) (hB : Bd + 1 < 4000) (h : xr g f p Bd w) : rG g f p (Bd + 2) (rpU (nI dd) (nI ii) x3 x4 w5 w) := by
  unfold rpU
  refine rG_v (y_take h) (fun w h => ?_)
  rw [if_neg (in6 hd), q_lt_s, if_neg (show ¬ (nI ii < 0 ∨ 3002 ≤ (nI ii).toNatClampNeg) from ni_nin (by omega) (by omega))]
  refine rG_d (y_emit (by omega) (xr_a h (by omega))) (fun a w h => rG_v (y_E (xr_i h (by omega))) (fun w h => y_rpT hd hB h))
set_option maxHeartbeats 200000 in
theorem x_ln {f p : Int32} (h : xc g f p l v) : cG g f p l (fX5_loopsNow v) := by unfold fX5_loopsNow; exact cG_s h
set_option maxHeartbeats 200000 in
theorem x_ag {f p x : Int32} (h : xc g f p l v) : cG g f p l (fX10_againOf x v) := by
  unfold fX10_againOf fX10_againOf_b14
  exact cG_i (fun _ => cG_s h) (fun _ => cG_s h)
set_option maxHeartbeats 200000 in
theorem c_ag (h : St g i n p C j n q d r R K k s l b A e e' v w) (hl : l < 14) : fX5_loopsNow v = some (nI l, v) ∧ fX10_againOf (nI l) v = some ((16 : Int32) <<< ((2 * nI l) &&& 31), v) := by
  have e9 := h.2.2.2.2.2.1.2.2.2.1.1
  refine ⟨by unfold fX5_loopsNow; rw [e9], ?_⟩
  unfold fX10_againOf fX10_againOf_b14
  rw [if_neg (by rw [ni_neg (by omega)]; exact not_false)]
set_option maxHeartbeats 200000 in
theorem wy_om : ∀ l, l < 14 → (∀ x, x < 34 → (x < 17 ∨ 20 ≤ x ∧ x < 34) → (1 ||| ((1048576 : Int64) <<< ((nI l).toInt64 &&& 63))).toBitVec.getLsbD x = wf (1 ||| ((16 : Int32) <<< ((2 * nI l) &&& 31))) x) ∧ (∀ x, x < 34 → (x < 17 ∨ 20 ≤ x ∧ x < 34) → ((1 ||| ((8 : Int64) <<< ((nI l).toInt64 &&& 63))) ||| ((1048576 : Int64) <<< ((nI l).toInt64 &&& 63))).toBitVec.getLsbD x = wf (1 ||| (((8 : Int32) <<< ((2 * nI l) &&& 31)) ||| ((16 : Int32) <<< ((2 * nI l) &&& 31)))) x) := by decide +kernel
set_option maxHeartbeats 200000 in
theorem wy_ag {o : Int32} {z : Int64} (hl : l < 14) (h : wy (l + 1) o z) : (o &&& (1 ||| ((16 : Int32) <<< ((2 * nI l) &&& 31))) = 0 ↔ z &&& (1 ||| ((1048576 : Int64) <<< ((nI l).toInt64 &&& 63))) = 0) ∧ (o &&& (1 ||| (((8 : Int32) <<< ((2 * nI l) &&& 31)) ||| ((16 : Int32) <<< ((2 * nI l) &&& 31)))) = 0 ↔ z &&& ((1 ||| ((8 : Int64) <<< ((nI l).toInt64 &&& 63))) ||| ((1048576 : Int64) <<< ((nI l).toInt64 &&& 63))) = 0) :=
  ⟨wy_z (wy_and (l' := l + 1) h (fun x hx => (wy_om l hl).1 x (by omega) hx) (fun x h1 h2 => absurd h1 (by omega))) (by omega), wy_z (wy_and (l' := l + 1) h (fun x hx => (wy_om l hl).2 x (by omega) hx) (fun x h1 h2 => absurd h1 (by omega))) (by omega)⟩
set_option maxHeartbeats 200000 in
theorem kw_rp : 2 ^ (8 * 4) ≤ (kw_c 21).toBitVec.toNat := by decide +kernel
set_option maxHeartbeats 200000 in
theorem kw_21 (ok : rd_ok g) (h : tkc g i = 321) : tka g i + 5 ≤ tka g (i + 1) := by
  have h1 := (tk_kl (kw := kw_c) (j := 21) (k := 4) ok.2.1 ok.1 (by omega) h kw_rp).1
  have h2 := tk_al (tp := g.1) ok.1 (i + 1)
  unfold tka; unfold gL at *; omega
end
