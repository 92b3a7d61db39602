section
variable {g : rd_G} {f p : Int32} {l B : Nat} {v w : q_V}
section
variable {U N : q_V → Option (Int32 × q_V)}
set_option maxHeartbeats 200000 in
theorem x_fac (h : xc g f p l v) : fX2_factor (q_i v 1805) v = some (-1, v) := by rw [h.2.1]; rfl
set_option maxHeartbeats 200000 in
theorem x_cmp (h : xc g f p l v) : fX2_comparison (q_i v 1805) v = some (-1, v) := by rw [h.2.1]; rfl
set_option maxHeartbeats 200000 in
theorem x_prodL {y : Int32} (h : xc g f p l v) : cG g f p l (fX2_product_L7 U N q_N y 0 v) := by
  rw [q_N1, fX2_product_L7, if_neg (by decide), x_fac h, q_bd_s, if_pos rfl]; exact cG_s h
set_option maxHeartbeats 200000 in
theorem x_product (HU : ∀ v, xc g f p l v → cG g f p l (U v)) (h : xc g f p l v) : cG g f p l (fX2_product U N v) := by
  unfold fX2_product
  exact cG_d (HU v h) (fun a v h => x_prodL h)
set_option maxHeartbeats 200000 in
theorem x_sumL {y : Int32} (h : xc g f p l v) : cG g f p l (fX2_sum_L7 U N q_N y 0 v) := by
  rw [q_N1, fX2_sum_L7, if_neg (by decide), h.2.1, if_neg (by decide), if_neg (by decide)]; exact cG_s h
set_option maxHeartbeats 200000 in
theorem x_sum (HU : ∀ v, xc g f p l v → cG g f p l (U v)) (h : xc g f p l v) : cG g f p l (fX2_sum U N v) := by
  unfold fX2_sum
  exact cG_d (x_product HU h) (fun a v h => x_sumL h)
set_option maxHeartbeats 200000 in
theorem x_test (HU : ∀ v, xc g f p l v → cG g f p l (U v)) (h : xc g f p l v) : cG g f p l (fX2_test U N v) := by
  unfold fX2_test fX2_test_b46
  refine cG_d (x_sum HU h) (fun a v h => ?_)
  rw [x_cmp h, q_bd_s, if_pos rfl]; exact cG_s h
set_option maxHeartbeats 200000 in
theorem x_neg (HU : ∀ v, xc g f p l v → cG g f p l (U v)) (h : xc g f p l v) : cG g f p l (fX2_negation U N v) := by
  unfold fX2_negation
  rw [if_neg (by rw [h.2.1]; decide)]
  exact cG_d (x_test HU h) (fun a v h => cG_s h)
set_option maxHeartbeats 200000 in
theorem x_conjL {y : Int32} (h : xc g f p l v) : cG g f p l (fX2_conjunction_L7 U N q_N y 0 v) := by
  rw [q_N1, fX2_conjunction_L7, if_neg (by decide), h.2.1, if_neg (by decide)]; exact cG_s h
set_option maxHeartbeats 200000 in
theorem x_conj (HN : ∀ v, xc g f p l v → cG g f p l (N v)) (h : xc g f p l v) : cG g f p l (fX2_conjunction U N v) := by
  unfold fX2_conjunction
  exact cG_d (HN v h) (fun a v h => x_conjL h)
set_option maxHeartbeats 200000 in
theorem x_wholeL {y : Int32} (h : xc g f p l v) : cG g f p l (fX2_whole_L7 U N q_N y 0 v) := by
  rw [q_N1, fX2_whole_L7, if_neg (by decide), h.2.1, if_neg (by decide)]; exact cG_s h
set_option maxHeartbeats 200000 in
theorem x_whole (HN : ∀ v, xc g f p l v → cG g f p l (N v)) (h : xc g f p l v) : cG g f p l (fX2_whole U N v) := by
  unfold fX2_whole
  exact cG_d (x_conj HN h) (fun a v h => x_wholeL h)
set_option maxHeartbeats 200000 in
theorem x_unit (h : xc g f p l v) : cG g f p l (fX2_unit U N v) := by
  unfold fX2_unit
  rw [q_lt_s, h.2.1]
  rw [if_neg (by decide), if_neg (by decide), if_neg (by decide), if_neg (by decide), if_neg (by decide), if_neg (by decide), if_neg (by decide), if_neg (by decide), if_neg (by decide), if_neg (by decide), if_neg (by decide)]
  exact cG_v (x_refuse h) (fun v h => cG_s h)
end
set_option maxHeartbeats 200000 in
theorem x_U {n : Nat} (h : xc g f p l v) : cG g f p l (fx2_rec (n + 1) 0 v) := by
  rw [fx2_rec]; exact x_unit h
set_option maxHeartbeats 200000 in
theorem x_N {n : Nat} (h : xc g f p l v) : cG g f p l (fx2_rec (n + 2) 1 v) := by
  rw [fx2_rec]
  · exact x_neg (fun v h => x_U h) h
  · exact fun z => absurd z (by decide)
section
variable {U N : q_V → Option q_V}
set_option maxHeartbeats 200000 in
theorem y_prodL (h : xr g f p B w) : rG g f p B (vu (fX12_product_L4 U N q_N w)) := by
  rw [q_N1, fX12_product_L4, y_sign h, q_bd_s, if_pos rfl, y_sign h, q_bd_s, if_pos rfl, y_sign h, q_bd_s, if_pos rfl]; exact rG_s h
set_option maxHeartbeats 200000 in
theorem y_product (HU : ∀ v, xr g f p B v → rG g f p B (vu (U v))) (h : xr g f p B w) : rG g f p B (vu (fX12_product U N w)) := by
  unfold fX12_product
  exact rG_u (HU w h) (fun v h => y_prodL h)
set_option maxHeartbeats 200000 in
theorem y_sumL (h : xr g f p B w) : rG g f p B (vu (fX12_sum_L4 U N q_N w)) := by
  rw [q_N1, fX12_sum_L4, y_sign h, q_bd_s, if_pos rfl, y_sign h, q_bd_s, if_pos rfl]; exact rG_s h
set_option maxHeartbeats 200000 in
theorem y_sum (HU : ∀ v, xr g f p B v → rG g f p B (vu (U v))) (h : xr g f p B w) : rG g f p B (vu (fX12_sum U N w)) := by
  unfold fX12_sum
  exact rG_u (y_product HU h) (fun v h => y_sumL h)
set_option maxHeartbeats 200000 in
theorem y_test (HU : ∀ v, xr g f p B v → rG g f p B (vu (U v))) (h : xr g f p B w) : rG g f p B (vu (fX12_test U N w)) := by
  unfold fX12_test fX12_test_b64
  refine rG_u (y_sum HU h) (fun v h => ?_)
  rw [y_is h, q_bd_s, if_pos rfl, y_is h, q_bd_s, if_pos rfl, y_sign h, q_bd_s, if_pos rfl, y_is h, q_bd_s, if_pos rfl, if_pos rfl]; exact rG_s h
set_option maxHeartbeats 200000 in
theorem y_turned (HU : ∀ v, xr g f p B v → rG g f p B (vu (U v))) (h : xr g f p B w) : rG g f p B (vu (fX12_turned U N w)) := by
  unfold fX12_turned
  rw [y_is h, q_bd_s, if_pos rfl]
  exact rG_u (y_test HU h) (fun v h => rG_s h)
set_option maxHeartbeats 200000 in
theorem y_bothL (h : xr g f p B w) : rG g f p B (vu (fX12_both_L4 U N q_N w)) := by
  obtain ⟨w', e, h'⟩ := y_skip (x := 31) h
  rw [q_N1, fX12_both_L4, e, q_bd_s, if_pos rfl]; exact rG_s h'
set_option maxHeartbeats 200000 in
theorem y_both (HN : ∀ v, xr g f p B v → rG g f p B (vu (N v))) (h : xr g f p B w) : rG g f p B (vu (fX12_both U N w)) := by
  unfold fX12_both
  exact rG_u (HN w h) (fun v h => y_bothL h)
set_option maxHeartbeats 200000 in
theorem y_exprL (h : xr g f p B w) : rG g f p B (vu (fX12_expression_L4 U N q_N w)) := by
  obtain ⟨w', e, h'⟩ := y_skip (x := 30) h
  rw [q_N1, fX12_expression_L4, e, q_bd_s, if_pos rfl]; exact rG_s h'
set_option maxHeartbeats 200000 in
theorem y_expr (HN : ∀ v, xr g f p B v → rG g f p B (vu (N v))) (h : xr g f p B w) : rG g f p B (vu (fX12_expression U N w)) := by
  unfold fX12_expression
  exact rG_u (y_both HN h) (fun v h => y_exprL h)
set_option maxHeartbeats 200000 in
theorem y_unit (h : xr g f p B w) : rG g f p B (vu (fX12_unit U N w)) := by
  unfold fX12_unit
  rw [y_fine h, q_bd_s, if_pos rfl]; exact rG_s h
end
set_option maxHeartbeats 200000 in
theorem y_U {n : Nat} (h : xr g f p B w) : rG g f p B (vu (fx12e_rec (n + 1) 0 w)) := by
  rw [fx12e_rec]; exact y_unit h
set_option maxHeartbeats 200000 in
theorem y_N {n : Nat} (h : xr g f p B w) : rG g f p B (vu (fx12e_rec (n + 2) 1 w)) := by
  rw [fx12e_rec]
  · exact y_turned (fun v h => y_U h) h
  · exact fun z => absurd z (by decide)
end
