/-- the arrays and numbers, the book's aside, that the relation reads -/
def uQ (k : Nat) : Prop := (200 ≤ k ∧ k ≤ 204) ∨ (1400 ≤ k ∧ k ≤ 1402) ∨ k = 1801 ∨ k = 2200 ∨ k = 2401 ∨ k = 2403 ∨ (2448 ≤ k ∧ k ≤ 2461) ∨ (2463 ≤ k ∧ k ≤ 2469)
def LU (v v' : q_V) : Prop := (∀ k, 2400 < k → k < 2600 → q_i v' k = q_i v k) ∧ ∀ k, uQ k → q_a v' k = q_a v k ∧ q_b v' k = q_b v k
def BU (v v' : q_V) : Prop := q_i v' 1 = q_i v 1 ∧ q_i v' 3 = q_i v 3 ∧ q_a v' 0 = q_a v 0 ∧ q_a v' 2 = q_a v 2 ∧ q_n v' 0 = q_n v 0 ∧ q_n v' 2 = q_n v 2
section
variable {v w v' w' vc vr vc' vr' vD vO : q_V}
set_option maxHeartbeats 200000 in
theorem bk_u {T : co_T} {XL : Int32 → Int32 → Int32 → Prop} (h : bk T XL vc vr) (b : BU vc vc') : bk T XL vc' vr := by
  obtain ⟨b1, b2, b3, b4, b5, b6⟩ := b
  unfold bk ru_S ru_B at h ⊢
  rw [b1, b2, b3, b4, b5, b6]; exact h
set_option maxHeartbeats 200000 in
theorem LRu (h : LR vc vr) (u : LU vr vr') : LR vc vr' := by
  obtain ⟨hi, ha⟩ := u
  obtain ⟨h1, h2, h3, h4, h5, h6⟩ := h
  have a1 : ∀ k, 2463 ≤ k → k ≤ 2469 → q_a vr' k = q_a vr k := fun k k1 k2 => (ha k (by unfold uQ; omega)).1
  refine ⟨?_, ?_, ?_, ?_, ?_, ?_⟩
  · rw [hi 2402 (by omega) (by omega), (ha 2401 (by unfold uQ; omega)).1]; exact h1
  · rw [hi 2408 (by omega) (by omega), hi 2409 (by omega) (by omega)]; exact h2
  · unfold ru_A at h3 ⊢
    rw [a1 2463 (by omega) (by omega), a1 2464 (by omega) (by omega), a1 2465 (by omega) (by omega), a1 2466 (by omega) (by omega), a1 2467 (by omega) (by omega)]; exact h3
  · unfold ru_told at h4 ⊢
    obtain ⟨t0, t1, t2, t3, t4, t5, t6, t7, t8, t9, t10, t11, t12⟩ := h4
    rw [hi 2517 (by omega) (by omega), hi 2518 (by omega) (by omega), hi 2519 (by omega) (by omega), hi 2520 (by omega) (by omega), hi 2522 (by omega) (by omega), hi 2523 (by omega) (by omega), hi 2521 (by omega) (by omega), hi 2524 (by omega) (by omega), hi 2470 (by omega) (by omega), a1 2468 (by omega) (by omega), a1 2469 (by omega) (by omega)]
    exact ⟨t0, t1, t2, t3, t4, t5, t6, t7, fun k k1 k2 => by rw [hi (2465 + k) (by omega) (by omega)]; exact t8 k k1 k2, t9, t10, t11, t12⟩
  · rw [(ha 2403 (by unfold uQ; omega)).2]; exact h5
  · rw [hi 2447 (by omega) (by omega)]
    rcases h6 with h6 | ⟨T, XL, h6⟩
    · exact Or.inl h6
    · refine Or.inr ⟨T, XL, ?_⟩
      have a2 : ∀ k, 2448 ≤ k → k ≤ 2461 → q_a vr' k = q_a vr k := fun k k1 k2 => (ha k (by unfold uQ; omega)).1
      unfold bk ru_S at h6 ⊢
      rw [a2 2448 (by omega) (by omega), a2 2449 (by omega) (by omega), a2 2450 (by omega) (by omega), a2 2451 (by omega) (by omega), a2 2452 (by omega) (by omega), a2 2453 (by omega) (by omega), a2 2454 (by omega) (by omega), a2 2455 (by omega) (by omega), a2 2456 (by omega) (by omega), a2 2457 (by omega) (by omega), a2 2458 (by omega) (by omega), a2 2459 (by omega) (by omega), a2 2460 (by omega) (by omega), a2 2461 (by omega) (by omega), hi 2462 (by omega) (by omega), hi 2447 (by omega) (by omega)]; exact h6
set_option maxHeartbeats 200000 in
/-- READ, said of the used things alone -/
theorem b_read {L : Nat} (h : LR vc vr) (hL : q_i vc 2206 = nI L) (hL3 : L ≤ 3000) (d1 : ∀ k, uQ k → q_a vD k = q_a vc k ∧ q_b vD k = q_b vc k) (d2 : q_i vD 1 = 0 ∧ q_i vD 3 = 0 ∧ q_n vD 0 = 2 * L + 16 ∧ q_n vD 2 = 150) :
    ∃ v1 w1 o pl, fX8_readTextR (nI L) vD = some v1 ∧ fX12_read vr = some (o, w1) ∧ fX8_faultKind v1 = some (o, v1) ∧ fX8_faultPlace v1 = some (pl, v1) ∧ rdk vD v1 ∧ rdW vr w1 ∧ q_i w1 2400 = 0 ∧ ∀ vO, (q_i vO 2206 = 0 ∧ q_i vO 2207 = o ∧ q_i vO 2208 = pl) → (∀ k, uQ k → q_a vO k = q_a v1 k ∧ q_b vO k = q_b v1 k) → (o = 0 → BU v1 vO) → (o ≠ 0 → BU vc vO) → LR vO w1 := by
  obtain ⟨⟨L', l1, l2, l3, l4⟩, h2, h3, h4, h5, h6⟩ := h
  have eL : L' = L := by
    rw [hL, ni_eq (by omega) (by omega)] at l2; omega
  subst eL
  have ki : ∀ i, i < 40 → ∀ j, j < 40 → kw_c i = kw_c j → i = j := kw_inj
  obtain ⟨v1, w1, o, pl, a1, a2, a3, a4, a5, a6, a7, a8, a9, a10, a11⟩ := t_read (tp := q_a vc 2200) (L := L') (v0 := vD) (w0 := vr) hL3 (fun j hj => (l4 j hj).2) (fun j hj => by rw [(d1 2200 (by unfold uQ; omega)).1]) (fun j hj => by rw [(d1 1801 (by unfold uQ; omega)).2]; exact h5.1 j hj) d2.2.2.1 d2.2.2.2 d2.1 d2.2.1 ⟨l3, hL3, fun j hj => ⟨(l4 j hj).1.symm, (l4 j hj).2⟩, h5.2, fun i j hi hj => ki i hi j hj⟩
  refine ⟨v1, w1, o, pl, a1, a2, a3, a4, a6, a7, a8, fun vO o1 o2 o3 o4 => ?_⟩
  have ac : ∀ k, uQ k → q_a vO k = q_a vc k ∧ q_b vO k = q_b vc k := fun k k1 => by
    have b1 := o2 k k1
    have b2 := a6.2.2.1 k (by unfold uQ at k1; omega)
    have b3 := d1 k k1
    exact ⟨b1.1.trans (b2.1.trans b3.1), b1.2.trans (b2.2.trans b3.2)⟩
  refine ⟨⟨0, by omega, o1.1, a9, fun j hj => absurd hj (by omega)⟩, ⟨by rw [o1.2.1, a5], by rw [o1.2.2, a10]⟩, ?_, ?_, ?_, ?_⟩
  · unfold ru_A at h3 ⊢
    rw [(ac 200 (by unfold uQ; omega)).1, (ac 201 (by unfold uQ; omega)).1, (ac 202 (by unfold uQ; omega)).1, (ac 203 (by unfold uQ; omega)).1, (ac 204 (by unfold uQ; omega)).1, (a7.1 2463 (by omega)).2.1, (a7.1 2464 (by omega)).2.1, (a7.1 2465 (by omega)).2.1, (a7.1 2466 (by omega)).2.1, (a7.1 2467 (by omega)).2.1]; exact h3
  · unfold ru_told at h4 ⊢
    obtain ⟨t0, t1, t2, t3, t4, t5, t6, t7, t8, t9, t10, t11, t12⟩ := h4
    rw [(ac 1400 (by unfold uQ; omega)).1, (ac 1401 (by unfold uQ; omega)).1, (ac 1402 (by unfold uQ; omega)).1, (a7.1 2517 (by omega)).1, (a7.1 2518 (by omega)).1, (a7.1 2519 (by omega)).1, (a7.1 2520 (by omega)).1, (a7.1 2522 (by omega)).1, (a7.1 2523 (by omega)).1, (a7.1 2521 (by omega)).1, (a7.1 2524 (by omega)).1, (a7.1 2470 (by omega)).1, (a7.1 2468 (by omega)).2.1, (a7.1 2469 (by omega)).2.1]
    exact ⟨t0, t1, t2, t3, t4, t5, t6, t7, fun k k1 k2 => by rw [(a7.1 (2465 + k) (by omega)).1]; exact t8 k k1 k2, t9, t10, t11, t12⟩
  · rw [(ac 1801 (by unfold uQ; omega)).2, (a7.1 2403 (by omega)).2.2]; exact h5
  · rcases a11 with ⟨ne, q1⟩ | ⟨z, T, XL, B⟩
    · have e1 := o4 ne
      rw [e1.2.1, (q1 2447 (by omega)).1]
      rcases h6 with h6 | ⟨T, XL, h6⟩
      · exact Or.inl h6
      · exact Or.inr ⟨T, XL, bk_u (bk_r h6 (fun k h1 h2 => (q1 k h1).1) (fun k h1 h2 => (q1 k h1).2)) e1⟩
    · exact Or.inr ⟨T, XL, bk_u B (o3 z)⟩
set_option maxHeartbeats 200000 in
/-- READ on one view -/
theorem h_read {L : Nat} (h : LR v v) (hL : q_i v 2206 = nI L) (hL3 : L ≤ 3000) (d1 : ∀ k, uQ k → q_a vD k = q_a v k ∧ q_b vD k = q_b v k) (d2 : q_i vD 1 = 0 ∧ q_i vD 3 = 0 ∧ q_n vD 0 = 2 * L + 16 ∧ q_n vD 2 = 150) :
    ∃ v1 o pl, fX8_readTextR (nI L) vD = some v1 ∧ fX8_faultKind v1 = some (o, v1) ∧ fX8_faultPlace v1 = some (pl, v1) ∧ rdk vD v1 ∧ ∀ vO, LU v vO → (q_i vO 2206 = 0 ∧ q_i vO 2207 = o ∧ q_i vO 2208 = pl) → (∀ k, uQ k → q_a vO k = q_a v1 k ∧ q_b vO k = q_b v1 k) → (o = 0 → BU v1 vO) → (o ≠ 0 → BU v vO) → ∃ v2, fX12_read vO = some (o, v2) ∧ LR v2 v2 := by
  obtain ⟨v1, _, o, pl, a1, _, a3, a4, a5, _, _, _⟩ := b_read h hL hL3 d1 d2
  refine ⟨v1, o, pl, a1, a3, a4, a5, fun vO k0 k1 k2 k3 k4 => ?_⟩
  obtain ⟨v1', w1, o', pl', b1, b2, b3, b4, b5, b6, b7, b8⟩ := b_read (LRu h k0) hL hL3 d1 d2
  rw [a1] at b1
  cases b1
  rw [a3] at b3
  rw [a4] at b4
  cases b3; cases b4
  exact ⟨w1, b2, LRl (b8 vO k1 k2 k3 k4) ⟨fun k hk => b6.1 k (Or.inl hk), b6.2.2.2.2⟩⟩
end
