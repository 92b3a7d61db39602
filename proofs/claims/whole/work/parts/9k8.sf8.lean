section
variable {g : rd_G} {i n p q d k s l b e e' : Nat} {C : Nat → Int32} {r : Int32} {R : Nat → Nat → Int32} {K : rd_K} {A : rd_A} {v w : q_V}
variable {B : q_V → Option (Int32 × q_V)} {B' : q_V → Option (Int64 × q_V)}
set_option maxHeartbeats 200000 in
theorem fin_0 {W : Int64} (h : W ||| 4 = W) : ∀ (w : q_V) (r : Int32), q_i w 2425 = r → (fun (z : Int64) (T : q_V) => some (z, T)) W w = some (if r = 0 then W else W ||| 4, w) := fun w r _ => by
  rw [h, ite_self]
set_option maxHeartbeats 200000 in
theorem fin_0x : ∀ (f p : Int32) (Bd : Nat) (z : Int64) (w : q_V), xr g f p Bd w → rG g f p Bd ((fun (z : Int64) (T : q_V) => some (z, T)) z w) := fun f p Bd z w h => rG_s h
set_option maxHeartbeats 200000 in
/-- a statement behind its order, by its first token -/
theorem s_tail (ok : rd_ok g) (hn : 1 ≤ n) (hn2 : n ≤ 14) (hB : BS g n B B') (hxB : ∀ f p l v, xc g f p l v → cG g f p l (B v)) (hyB : ∀ f p Bd w, xr g f p Bd w → rG g f p Bd (B' w)) (hTr : tkc g i = 314 → TS g n i (fX8_trial B (nI (tka g i))) (fX12_trial B' (nI i))) (hCh : tkc g i = 323 → TS g n i (fX8_choose B) (fX12_choose B'))
    (h : St g i n p C i n q d 0 R K k s l b A e e' v w) (z : z1 g n i p q K.length d s) (o : ov g i s e e') (hln : l + 1 ≤ n ∧ LB A l p d) : jn g l (3300 + 20 * (15 - n)) (SPQ g n i p C q d R K k s l b A e e') (stC B (nI (tka g i)) (tkc g i) v) (stR B' (nI i) (tk_m (tkc g i)) w) := by
  have go : ∀ F F', TS g n i F F' → jn g l (3300 + 20 * (15 - n)) (SPQ g n i p C q d R K k s l b A e e') (F v) (F' w) := fun F F' H => jn_im (H p C q d R K k s l b A e e' v w h z o hln) (fun a v b w X => SPT_Q X)
  have lp : (tkc g i = 305 ∨ tkc g i = 306 ∨ tkc g i = 321) → jn g l (3300 + 20 * (15 - n)) (SPQ g n i p C q d R K k s l b A e e') (fX8_statement_b451 B (nI (tka g i)) v) (fX12_statement_b336 B' (nI i) w) := fun hj => by
    unfold fX8_statement_b451 fX12_statement_b336
    rw [q_bd_eta, q_bd_eta]
    exact jn_im (t_loop (j := i) (x := 0) ok hn hn2 hB hxB (Nat.le_refl _) hj (fun m h1 h2 => absurd h1 (by omega)) h z o hln) (fun a v b w X => SPT_Q X)
  rcases st_V (tkc g i) (tkc_V ok) with hc | ⟨hc, hc'⟩
  · simp only [List.mem_cons, List.not_mem_nil, or_false] at hc
    rcases hc with hc | hc | hc | hc | hc | hc | hc | hc | hc | hc | hc | hc | hc | hc | hc | hc | hc | hc | hc | hc | hc
    · rw [hc, show tk_m 259 = 2 from rfl, stC_259, stR_2, q_bd_eta, q_bd_eta]; exact go _ _ (t_named ok hn hn2 hB hxB hc)
    · rw [hc, show tk_m 301 = 11 from rfl, stC_301, stR_11, q_bd_eta, q_bd_eta]; exact go _ _ (t_var ok hn hn2 hc)
    · rw [hc, show tk_m 302 = 12 from rfl, stC_302, stR_12, q_bd_eta]
      exact go _ _ (t_order (m := 1) (x := 35) (y := 31) (W := 1) (W' := 1) (fin := fun z26 T25 => q_bd (fX12_risky z26 T25) (fun z28 T27 => some (z28, T27))) ok hn hn2 (by omega) (by omega) (by rw [hc]; decide) (fun l => wy_k.2.1) (by decide) (fun w r hr => by rw [r_risky hr, q_bd_s]) (fun f p Bd z w h => rG_d (y_risky h) (fun a w h => rG_s h)) (fun T XL nu L p p1 q q1 hb h1 h2 y c0 r0 Fin a S f0 H => ru_NOTE (y Fin a S f0 H) h1 h2 c0 r0))
    · rw [hc, show tk_m 303 = 13 from rfl, stC_303, stR_13, q_bd_eta, q_bd_eta]; exact go _ _ (t_if ok hn hn2 hB hxB hyB (by rw [hc]; decide))
    · rw [hc, show tk_m 305 = 15 from rfl, stC_305, stR_15]; exact lp (Or.inl hc)
    · rw [hc, show tk_m 306 = 16 from rfl, stC_306, stR_16]; exact lp (Or.inr (Or.inl hc))
    · rw [hc, show tk_m 309 = 19 from rfl, stC_309, stR_19, q_bd_eta, q_bd_eta]; exact go _ _ (t_away (o := true) ok hn hn2 (Or.inl ⟨rfl, rfl, rfl, rfl⟩) (by rw [hc]; decide))
    · rw [hc, show tk_m 310 = 20 from rfl, stC_310, stR_20, q_bd_eta, q_bd_eta]; exact go _ _ (t_away (o := false) ok hn hn2 (Or.inr ⟨rfl, rfl, rfl, rfl⟩) (by rw [hc]; decide))
    · rw [hc, show tk_m 311 = 21 from rfl, stC_311, stR_21, q_bd_eta, q_bd_eta]; exact go _ _ (t_answer ok hn hn2 hc (by rw [hc]; decide))
    · rw [hc, show tk_m 312 = 22 from rfl, stC_312, stR_22, q_bd_eta]
      exact go _ _ (t_order (m := 1) (x := 43) (y := 36) (W := 4) (W' := 4) ok hn hn2 (by omega) (by omega) (by rw [hc]; decide) (fun l => wy_k.2.2.2.1) (by decide) (fin_0 (by decide)) fin_0x (fun T XL nu L p p1 q q1 hb h1 h2 y c0 r0 Fin a S f0 H => ru_FAIL (y Fin a S f0 H) h1 h2 c0 r0))
    · rw [hc, show tk_m 313 = 23 from rfl, stC_313, stR_23, q_bd_eta, q_bd_eta]; exact go _ _ (t_hold ok hn hn2 hB hxB hyB (by rw [hc]; decide))
    · rw [hc, show tk_m 314 = 24 from rfl, stC_314, stR_24, q_bd_eta, q_bd_eta]; exact go _ _ (hTr hc)
    · rw [hc, show tk_m 318 = 28 from rfl, stC_318, stR_28, q_bd_eta, q_bd_eta]; exact t_later ok hn hn2 hB hxB hyB hc h z o hln
    · rw [hc, show tk_m 319 = 29 from rfl, stC_319, stR_29, q_bd_eta, q_bd_eta]; exact go _ _ (t_stop ok hn hn2 (by rw [hc]; decide))
    · rw [hc, show tk_m 320 = 44 from rfl, stC_320, stR_44, q_bd_eta, q_bd_eta]; exact go _ _ (t_ensure ok hn hn2 hB hxB hyB hc)
    · rw [hc, show tk_m 321 = 45 from rfl, stC_321, stR_45]; exact lp (Or.inr (Or.inr hc))
    · rw [hc, show tk_m 323 = 47 from rfl, stC_323, stR_47, q_bd_eta, q_bd_eta]; exact go _ _ (hCh hc)
    · rw [hc, show tk_m 329 = 33 from rfl, stC_329, stR_33, q_bd_eta]
      exact go _ _ (t_order (m := 2) (x := 36) (y := 32) (W := 5) (W' := 5) ok hn hn2 (by omega) (by omega) (by rw [hc]; decide) (fun l => wy_k.2.2.2.2) (by decide) (fin_0 (by decide)) fin_0x (fun T XL nu L p p1 q q1 hb h1 h2 y c0 r0 Fin a S f0 H => ru_OPEN (y Fin a S f0 H) h1 h2 c0 r0))
    · rw [hc, show tk_m 330 = 34 from rfl, stC_330, stR_34, q_bd_eta]
      exact go _ _ (t_order (m := 2) (x := 37) (y := 33) (W := 5) (W' := 5) ok hn hn2 (by omega) (by omega) (by rw [hc]; decide) (fun l => wy_k.2.2.2.2) (by decide) (fin_0 (by decide)) fin_0x (fun T XL nu L p p1 q q1 hb h1 h2 y c0 r0 Fin a S f0 H => ru_SHUT (y Fin a S f0 H) h1 h2 c0 r0))
    · rw [hc, show tk_m 331 = 35 from rfl, stC_331, stR_35, q_bd_eta]
      exact go _ _ (t_order (m := 3) (x := 38) (y := 34) (W := 5) (W' := 5) ok hn hn2 (by omega) (by omega) (by rw [hc]; decide) (fun l => wy_k.2.2.2.2) (by decide) (fin_0 (by decide)) fin_0x (fun T XL nu L p p1 q q1 hb h1 h2 y c0 r0 Fin a S f0 H => ru_SLUICE H.1 (y Fin a S f0 H) h1 h2 c0 r0))
    · rw [hc, show tk_m 332 = 36 from rfl, stC_332, stR_36, q_bd_eta]
      exact go _ _ (t_order (m := 2) (x := 39) (y := 35) (W := 5) (W' := 5) ok hn hn2 (by omega) (by omega) (by rw [hc]; decide) (fun l => wy_k.2.2.2.2) (by decide) (fin_0 (by decide)) fin_0x (fun T XL nu L p p1 q q1 hb h1 h2 y c0 r0 Fin a S f0 H => ru_SAIL (y Fin a S f0 H) h1 h2 c0 r0))
  · have zp := z0_p ok z.1
    obtain ⟨v1, a1, x1⟩ := c_refuse h
    obtain ⟨w1, b1, y1⟩ := r_wrong (Bd := 3111) ok h (by omega)
    rw [stC_x _ hc, stR_x _ hc']
    unfold fX8_statement_b481 fX12_statement_b397
    rw [a1, q_bv_s, b1, q_bv_s]
    exact jn_xx (cG_s x1) (rG_s (xr_le y1 (by omega)))
end
