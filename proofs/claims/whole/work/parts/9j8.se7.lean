section
variable {g : rd_G} {i n p i' n' q d k s l b e e' : Nat} {C : Nat → Int32} {r : Int32} {R : Nat → Nat → Int32} {K : rd_K} {A : rd_A} {v w : q_V} {T : co_T} {XL : Int32 → Int32 → Int32 → Prop}
variable {B : q_V → Option (Int32 × q_V)} {B' : q_V → Option (Int64 × q_V)}
set_option maxHeartbeats 200000 in
theorem q_bd_n {α β : Type} {c : Prop} [Decidable c] {X : Option (α × q_V)} {f : α → q_V → Option (β × q_V)} : q_bd (if c then none else X) f = if c then none else q_bd X f := by split <;> rfl
/-- behind the rounds -/
def rrE (x1 : Int32) (w2 : Int64) (B' : q_V → Option (Int64 × q_V)) (xn4 xn5 xn6 xn7 : Int32) (wt0 z5013 : Int64) (T5014 : q_V) : Option (Int64 × q_V) :=
  q_lt (q_si T5014 2441 xn5) (fun T5015 =>
  q_lt (((8 : Int64) <<< ((q_i T5015 2445 : Int32).toInt64 &&& 63)) : Int64) (fun z5016 =>
  q_lt (((1048576 : Int64) <<< ((q_i T5015 2445 : Int32).toInt64 &&& 63)) : Int64) (fun z5017 =>
  q_lt ((wt0 ||| (z5013 &&& (((1 ||| z5016) ||| z5017) ^^^ (- 1)))) : Int64) (fun z5018 =>
  if xn6 = 0 then
  fX12_loop_b373 B' x1 w2 xn4 xn6 xn7 z5013 z5017 z5018 T5015
  else
  if (lg_cmp (z5013 &&& ((1 ||| z5016) ||| z5017)) 0) = 0 then
  fX12_loop_b378 B' x1 w2 xn4 xn6 xn7 z5013 z5017 0 z5018 T5015
  else
  fX12_loop_b373 B' x1 w2 xn4 xn6 xn7 z5013 z5017 z5018 T5015))))
set_option maxHeartbeats 200000 in
theorem b229_eq {x1 xn4 xn5 xn6 xn7 : Int32} {w2 wt0 : Int64} (h : fX12_fine w = some (1, w)) : fX12_loop_b229 B' x1 w2 xn4 xn5 xn6 xn7 wt0 w = q_bd (rrd B' w2 xn4 w) (fun z T => rrE x1 w2 B' xn4 xn5 xn6 xn7 wt0 z T) := by
  unfold fX12_loop_b229 rrd rrE
  rw [h, q_bd_s, if_neg (show ¬ (1 : Int32) = 0 by decide)]
  simp only [q_lt_s, q_bd_n, q_bd_d, q_bd_s]
set_option maxHeartbeats 200000 in
/-- the ways of a loop's own leave and again are taken out -/
theorem wy_ow : ∀ l, l < 14 → (∀ x, x < 34 → (x < 17 ∨ 20 ≤ x ∧ x < 34) → (((1 ||| ((8 : Int64) <<< ((nI l).toInt64 &&& 63))) ||| ((1048576 : Int64) <<< ((nI l).toInt64 &&& 63))) ^^^ (-1)).toBitVec.getLsbD x = wf (((((8 : Int32) <<< ((2 * nI l) &&& 31)) ||| ((16 : Int32) <<< ((2 * nI l) &&& 31))) ^^^ (-1)) &&& (-2)) x) ∧ (∀ x, x < 32 → 3 + 2 * l ≤ x → x < 5 + 2 * l → (((((8 : Int32) <<< ((2 * nI l) &&& 31)) ||| ((16 : Int32) <<< ((2 * nI l) &&& 31))) ^^^ (-1)) &&& (-2)).toBitVec.getLsbD x = false) := by decide +kernel
set_option maxHeartbeats 200000 in
theorem wy_own {o : Int32} {z : Int64} (hl : l < 14) (h : wy (l + 1) o z) : wy l ((o &&& ((((8 : Int32) <<< ((2 * nI l) &&& 31)) ||| ((16 : Int32) <<< ((2 * nI l) &&& 31))) ^^^ (-1))) &&& (-2)) (z &&& (((1 ||| ((8 : Int64) <<< ((nI l).toInt64 &&& 63))) ||| ((1048576 : Int64) <<< ((nI l).toInt64 &&& 63))) ^^^ (-1))) := by
  rw [Int32.and_assoc]
  refine wy_and h (fun x hx => (wy_ow l hl).1 x (by omega) hx) (fun x h1 h2 => (wy_ow l hl).2 x (by omega) h1 (by omega))
set_option maxHeartbeats 200000 in
theorem c_own (h : St g i n p C i' n' q d r R K k s l b A e e' v w) (hl : l < 14) : fX8_ownWays v = some (((8 : Int32) <<< ((2 * nI l) &&& 31)) ||| ((16 : Int32) <<< ((2 * nI l) &&& 31)), v) := by
  have e9 := h.2.2.2.2.2.1.2.2.2.1.1
  unfold fX8_ownWays fX5_loopsNow fX10_leaveOf fX10_againOf fX10_leaveOf_b14 fX10_againOf_b14
  rw [q_bd_s, e9, if_neg (by rw [ni_neg (by omega)]; exact not_false), q_bd_s, q_bd_s, e9, if_neg (by rw [ni_neg (by omega)]; exact not_false), q_bd_s]
set_option maxHeartbeats 200000 in
theorem x_own {f p : Int32} (h : xc g f p l v) : cG g f p l (fX8_ownWays v) := by
  unfold fX8_ownWays fX5_loopsNow fX10_leaveOf fX10_againOf fX10_leaveOf_b14 fX10_againOf_b14
  rw [q_bd_s]
  refine cG_d (l1 := l) (cG_i (fun _ => cG_s h) (fun _ => cG_s h)) (fun a v h => ?_)
  rw [q_bd_s]
  exact cG_d (l1 := l) (cG_i (fun _ => cG_s h) (fun _ => cG_s h)) (fun a v h => cG_s h)
set_option maxHeartbeats 200000 in
theorem x_enter {f p : Int32} {x : Int64} {y : Int32} (hl : l < 2147483647) (h : xc g f p l v) : cG g f p (l + 1) (vu (fX5_enterLoop x y v)) := by
  have e9 := h.2.2.2.2.2
  have fin : ∀ u, xc g f p l u → xc g f p (l + 1) (q_si u 1009 (nI (l + 1))) := fun u h => by
    obtain ⟨h1, h2, h3, h4, h5, h6⟩ := h
    refine ⟨rdf_i h1 (by omega), ?_, ?_, ?_, h5, q_i_at⟩
    · rw [q_i_ne (by omega)]; exact h2
    · rw [q_i_ne (by omega)]; exact h3
    · rw [q_i_ne (by omega)]; exact h4
  unfold fX5_enterLoop fX5_enterLoop_b29
  rw [e9]
  by_cases c : 14 ≤ l
  · rw [if_pos (show (14 : Int32) ≤ nI l from ni_ple (a := 14) c (by omega)), q_lt_s, ni_add1]
    exact cG_s (fin v h)
  · rw [if_neg (show ¬ (14 : Int32) ≤ nI l from ni_nle (a := 14) (by omega) (by omega)), if_neg (ni_nin (by omega) (by omega)), q_lt_s, q_i_sb, e9, if_neg (ni_nin (by omega) (by omega)), q_lt_s, q_lt_s, q_i_sa, q_i_sb, e9, ni_add1]
    exact cG_s (fin _ (xc_a (xc_b h (by omega)) (by omega)))
set_option maxHeartbeats 200000 in
theorem x_round {f p : Int32} {x : Int64} {y : Int32} (ok : rd_ok g) (hl : l < 2147483647) (hxB : ∀ f p l v, xc g f p l v → cG g f p l (B v)) (h : xc g f p l v) : cG g f p l (fX8_round B x y v) := by
  unfold fX8_round
  refine cG_v (x_enter hl h) (fun v h => cG_d (hxB _ _ _ _ h) (fun a v h => cG_d (x_add ok h) (fun a v h => cG_d (x_always h) (fun a v h => cG_v (x_leave h) (fun v h => cG_s h)))))
set_option maxHeartbeats 200000 in
theorem x_sr {f p : Int32} {x y z : Int32} (ok : rd_ok g) (h : xc g f p l v) : cG g f p l (vu (fX8_setRound x y z v)) := by
  unfold fX8_setRound
  exact cG_u (x_set ok h) (fun v h => cG_u (x_set ok h) (fun v h => cG_s h))
end
