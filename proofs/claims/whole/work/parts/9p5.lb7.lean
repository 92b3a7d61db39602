def bF (k : Nat) : Bool := Nat.beq k 2200 || Nat.beq k 2206
def bG (k : Nat) : Bool := Nat.ble 2400 k && Nat.ble k 2402
section
variable {vc vr v w v0 w0 : q_V} {x x1 x2 : Int32}
set_option maxHeartbeats 200000 in
theorem fe_b {b : BitVec 32} {k : Nat} (h : k ≤ 24) : (b >>> k) &&& 255#32 = (b.sshiftRight k) &&& 255#32 := by
  apply BitVec.eq_of_getLsbD_eq
  intro i hi
  rw [BitVec.getLsbD_and, BitVec.getLsbD_and]
  by_cases c : i < 8
  · rw [BitVec.getLsbD_ushiftRight, BitVec.getLsbD_sshiftRight, if_pos (by omega)]
    have : decide (32 ≤ i) = false := decide_eq_false (by omega)
    rw [this]
    simp
  · have : (255#32).getLsbD i = false := by
      have : i = 8 ∨ i = 9 ∨ i = 10 ∨ i = 11 ∨ i = 12 ∨ i = 13 ∨ i = 14 ∨ i = 15 ∨ i = 16 ∨ i = 17 ∨ i = 18 ∨ i = 19 ∨ i = 20 ∨ i = 21 ∨ i = 22 ∨ i = 23 ∨ i = 24 ∨ i = 25 ∨ i = 26 ∨ i = 27 ∨ i = 28 ∨ i = 29 ∨ i = 30 ∨ i = 31 := by omega
      rcases this with h | h | h | h | h | h | h | h | h | h | h | h | h | h | h | h | h | h | h | h | h | h | h | h <;> subst h <;> rfl
    rw [this, Bool.and_false, Bool.and_false]
set_option maxHeartbeats 200000 in
theorem fe_y {s : Int32} (hs : s = 24 ∨ s = 16 ∨ s = 8 ∨ s = 0) : ((x.toUInt32 >>> (s.toUInt32 &&& Int32.toUInt32 31)).toInt32 &&& 255) = (x >>> (s &&& 31)) &&& 255 := by
  apply Int32.toBitVec.inj
  rcases hs with h | h | h | h <;> subst h
  · exact fe_b (b := x.toBitVec) (k := 24) (by omega)
  · exact fe_b (b := x.toBitVec) (k := 16) (by omega)
  · exact fe_b (b := x.toBitVec) (k := 8) (by omega)
  · exact fe_b (b := x.toBitVec) (k := 0) (by omega)
set_option maxHeartbeats 200000 in
theorem fe_n {y : Int32} : ∃ b, b < 256 ∧ y &&& 255 = nI b := by
  refine ⟨(y.toBitVec &&& 255#32).toNat, ?_, ?_⟩
  · rw [BitVec.toNat_and]
    have : y.toBitVec.toNat &&& (255#32).toNat ≤ (255#32).toNat := Nat.and_le_right
    have e : (255#32).toNat = 255 := rfl
    omega
  · apply Int32.toBitVec.inj
    show y.toBitVec &&& 255#32 = BitVec.ofNat 32 (y.toBitVec &&& 255#32).toNat
    rw [BitVec.ofNat_toNat, BitVec.setWidth_eq]
set_option maxHeartbeats 200000 in
theorem fe_c0 : ∀ b, b < 128 → (nI b).toInt8.toInt32.toInt8.toInt32 = nI b := by
  intro b hb
  have h : (nI b).toInt8.toInt32 = nI b := by
    apply Int32.toInt_inj.mp
    rw [Int8.toInt_toInt32, Int32.toInt_toInt8, ni_toInt (by omega), Int.bmod_eq_of_le (by omega) (by omega)]
  rw [h, h]
set_option maxHeartbeats 200000 in
theorem fe_c {b : Nat} (h : b < 128) : vp_nar .byte ((nI b).toInt8.toInt32) = nI b := fe_c0 b h
/-- what feed relates -/
def ft (L : Nat) (vc vr : q_V) : Prop := q_i vc 2206 = nI L ∧ q_i vr 2402 = nI L ∧ ∀ j, j < L → q_a vc 2200 j = q_a vr 2401 j ∧ ∃ b, b < 128 ∧ q_a vc 2200 j = nI b
set_option maxHeartbeats 200000 in
theorem ft_s {L b : Nat} (h : ft L vc vr) (hb : b < 128) : ft (L + 1) (q_si (q_sa vc 2200 (upd (q_a vc 2200) L (nI b))) 2206 (nI (L + 1))) (q_si (q_sa vr 2401 (upd (q_a vr 2401) L (nI b))) 2402 (nI (L + 1))) := by
  refine ⟨by rw [q_i_si, if_pos rfl], by rw [q_i_si, if_pos rfl], fun j hj => ?_⟩
  rw [q_a_si, q_a_si, q_a_sa, if_pos rfl, q_a_sa, if_pos rfl]
  by_cases c : j = L
  · rw [c, upd_at, upd_at]; exact ⟨rfl, b, hb, rfl⟩
  · rw [upd_ne c, upd_ne c]; exact h.2.2 j (by omega)
set_option maxHeartbeats 200000 in
theorem fe_1 {L n m : Nat} {s : Int32} (hs : s = 24 ∨ s = 16 ∨ s = 8 ∨ s = 0) (h : ft L vc vr) (hL : L < 3000) (l1 : lc bF v0 vc) (l2 : lc bG w0 vr) : ∃ vc' vr', fX11_append_L3 x (n + 1) s vc = fX11_append_L3 x n (s + (- 8)) vc' ∧ fX12_putFour_L3 x (m + 1) s vr = fX12_putFour_L3 x m (s + (- 8)) vr' ∧ ft (L + 1) vc' vr' ∧ lc bF v0 vc' ∧ lc bG w0 vr' := by
  have ns : ¬ s < 0 := by rcases hs with h | h | h | h <;> subst h <;> decide
  obtain ⟨b, hb, eb⟩ := fe_n (y := x >>> (s &&& 31))
  rw [fX11_append_L3, fX12_putFour_L3, if_neg ns, if_neg ns, q_lt_s, q_lt_s, fe_y hs, eb]
  have hin : ¬ (nI L < 0 ∨ 3000 ≤ (nI L).toNatClampNeg) := ni_nin (by omega) (by omega)
  have n0 : ¬ nI L < 0 := by rw [ni_neg (by omega)]; exact not_false
  have n3 : ¬ (3000 : Int32) ≤ nI L := ni_nle (a := 3000) (by omega) (by omega)
  have cl : (nI L).toNatClampNeg = L := ni_clamp (by omega)
  have good : b < 128 → ∃ vc' vr', fX11_append_b33 x s (nI b) (fun y S => fX11_append_L3 x n y S) vc = fX11_append_L3 x n (s + (- 8)) vc' ∧ fX12_putFour_b41 x s (nI b) (q_i vr 2402) (fun y S => fX12_putFour_L3 x m y S) vr = fX12_putFour_L3 x m (s + (- 8)) vr' ∧ ft (L + 1) vc' vr' ∧ lc bF v0 vc' ∧ lc bG w0 vr' := fun hb => by
    refine ⟨_, _, ?_, ?_, ft_s h hb, lcI (lcA l1 rfl) rfl, lcI (lcA l2 rfl) rfl⟩
    · unfold fX11_append_b33 fX11_append_b38 fX11_append_b78 fX11_append_b90
      rw [h.1, if_neg n0, if_neg n3, if_neg (show ¬ (1 : Int32) = 0 by decide), if_neg hin, q_lt_s, q_lt_s, q_lt_s, cl, fe_c hb]
      rw [show q_i (q_sa vc 2200 (upd (q_a vc 2200) L (nI b))) 2206 = q_i vc 2206 from rfl, h.1, ni_add1]
    · unfold fX12_putFour_b41 fX12_putFour_b47
      rw [h.2.1, if_neg hin, q_lt_s, q_lt_s, q_lt_s, cl]
      rw [show q_i (q_sa vr 2401 (upd (q_a vr 2401) L (nI b))) 2402 = q_i vr 2402 from rfl, h.2.1, ni_add1]
  have bad : ∃ vc' vr', fX11_append_b37 x s (nI b) (fun y S => fX11_append_L3 x n y S) vc = fX11_append_L3 x n (s + (- 8)) vc' ∧ fX12_putFour_b45 x s (q_i vr 2402) (fun y S => fX12_putFour_L3 x m y S) vr = fX12_putFour_L3 x m (s + (- 8)) vr' ∧ ft (L + 1) vc' vr' ∧ lc bF v0 vc' ∧ lc bG w0 vr' := by
    refine ⟨_, _, ?_, ?_, ft_s (b := 32) h (by omega), lcI (lcA l1 rfl) rfl, lcI (lcA l2 rfl) rfl⟩
    · unfold fX11_append_b37 fX11_append_b38 fX11_append_b78 fX11_append_b90
      rw [h.1, if_neg n0, if_neg n3, if_pos rfl, if_neg hin, q_lt_s, q_lt_s, q_lt_s, cl, show vp_nar .byte ((32 : Int32).toInt8.toInt32) = nI 32 from fe_c (b := 32) (by omega)]
      rw [show q_i (q_sa vc 2200 (upd (q_a vc 2200) L (nI 32))) 2206 = q_i vc 2206 from rfl, h.1, ni_add1]
    · unfold fX12_putFour_b45 fX12_putFour_b47
      rw [h.2.1, if_neg hin, q_lt_s, q_lt_s, q_lt_s, cl]
      rw [show q_i (q_sa vr 2401 (upd (q_a vr 2401) L (32 : Int32))) 2402 = q_i vr 2402 from rfl, h.2.1, ni_add1]
      rfl
  by_cases c1 : nI b = 10
  · have : b = 10 := by
      rw [show (10 : Int32) = nI 10 from rfl, ni_eq (by omega) (by omega)] at c1; exact c1
    rw [if_pos c1, if_pos c1]; exact good (by omega)
  · rw [if_neg c1, if_neg c1]
    by_cases c2 : nI b < 32
    · rw [if_pos c2, if_pos c2]; exact bad
    · rw [if_neg c2, if_neg c2]
      by_cases c3 : (126 : Int32) < nI b
      · rw [if_pos c3, if_pos c3]; exact bad
      · rw [if_neg c3, if_neg c3]
        refine good ?_
        have : ¬ (nI 126 < nI b) := c3
        rw [ni_lt (by omega) (by omega)] at this
        omega
set_option maxHeartbeats 200000 in
theorem fe_4 {L : Nat} (h : ft L vc vr) (hL : L + 4 ≤ 3000) (l1 : lc bF v0 vc) (l2 : lc bG w0 vr) : ∃ vc' vr', fX11_append x vc = some vc' ∧ fX12_putFour x vr = some vr' ∧ ft (L + 4) vc' vr' ∧ lc bF v0 vc' ∧ lc bG w0 vr' := by
  unfold fX11_append fX12_putFour
  have hN : ∃ n, q_N = n + 5 := ⟨q_N - 5, by unfold q_N; omega⟩
  obtain ⟨n, hn⟩ := hN
  rw [hn]
  obtain ⟨a1, b1, p1, q1, h, l1, l2⟩ := fe_1 (x := x) (n := n + 4) (m := n + 4) (s := 24) (Or.inl rfl) h (by omega) l1 l2
  obtain ⟨a2, b2, p2, q2, h, l1, l2⟩ := fe_1 (x := x) (n := n + 3) (m := n + 3) (s := 16) (Or.inr (Or.inl rfl)) h (by omega) l1 l2
  obtain ⟨a3, b3, p3, q3, h, l1, l2⟩ := fe_1 (x := x) (n := n + 2) (m := n + 2) (s := 8) (Or.inr (Or.inr (Or.inl rfl))) h (by omega) l1 l2
  obtain ⟨a4, b4, p4, q4, h, l1, l2⟩ := fe_1 (x := x) (n := n + 1) (m := n + 1) (s := 0) (Or.inr (Or.inr (Or.inr rfl))) h (by omega) l1 l2
  refine ⟨a4, b4, ?_, ?_, h, l1, l2⟩
  · rw [p1, show (24 : Int32) + (- 8) = 16 from rfl, p2, show (16 : Int32) + (- 8) = 8 from rfl, p3, show (8 : Int32) + (- 8) = 0 from rfl, p4, show (0 : Int32) + (- 8) = - 8 from rfl, fX11_append_L3, if_pos (by decide)]
  · rw [q1, show (24 : Int32) + (- 8) = 16 from rfl, q2, show (16 : Int32) + (- 8) = 8 from rfl, q3, show (8 : Int32) + (- 8) = 0 from rfl, q4, show (0 : Int32) + (- 8) = - 8 from rfl, fX12_putFour_L3, if_pos (by decide)]
set_option maxHeartbeats 200000 in
theorem LR_f {vc' vr' : q_V} (h : LR vc vr) (ht : ∃ L, L ≤ 3000 ∧ q_i vc' 2206 = nI L ∧ q_i vr' 2402 = nI L ∧ ∀ j, j < L → q_a vc' 2200 j = q_a vr' 2401 j ∧ ∃ b, b < 128 ∧ q_a vc' 2200 j = nI b) (ff : ∀ k, k ≠ 2206 → k ≠ 2200 → bF k = false) (fg : ∀ k, 2402 < k → bG k = false) (l1 : lc bF vc vc') (l2 : lc bG vr vr') : LR vc' vr' := by
  have hi : ∀ k, k ≠ 2206 → k ≠ 2200 → q_i vc' k = q_i vc k := fun k h1 h2 => l1.1 k (ff k h1 h2)
  have ha : ∀ k, k ≠ 2206 → k ≠ 2200 → q_a vc' k = q_a vc k := fun k h1 h2 => l1.2.2.1 k (ff k h1 h2)
  have hi' : ∀ k, 2402 < k → q_i vr' k = q_i vr k := fun k h1 => l2.1 k (fg k h1)
  have ha' : ∀ k, 2402 < k → q_a vr' k = q_a vr k := fun k h1 => l2.2.2.1 k (fg k h1)
  have hn : q_n vc' = q_n vc := l1.2.2.2.2.2.2
  obtain ⟨_, h2, h3, h4, h5, h6⟩ := h
  refine ⟨ht, ?_, ?_, ?_, ?_, ?_⟩
  · rw [hi 2207 (by omega) (by omega), hi 2208 (by omega) (by omega), hi' 2408 (by omega), hi' 2409 (by omega)]; exact h2
  · unfold ru_A at h3 ⊢
    rw [ha 200 (by omega) (by omega), ha 201 (by omega) (by omega), ha 202 (by omega) (by omega), ha 203 (by omega) (by omega), ha 204 (by omega) (by omega), ha' 2463 (by omega), ha' 2464 (by omega), ha' 2465 (by omega), ha' 2466 (by omega), ha' 2467 (by omega)]; exact h3
  · unfold ru_told at h4 ⊢
    obtain ⟨t0, t1, t2, t3, t4, t5, t6, t7, t8, t9, t10, t11, t12⟩ := h4
    rw [ha 1400 (by omega) (by omega), ha 1401 (by omega) (by omega), ha 1402 (by omega) (by omega), hi' 2517 (by omega), hi' 2518 (by omega), hi' 2519 (by omega), hi' 2520 (by omega), hi' 2522 (by omega), hi' 2523 (by omega), hi' 2521 (by omega), hi' 2524 (by omega), hi' 2470 (by omega), ha' 2468 (by omega), ha' 2469 (by omega)]
    exact ⟨t0, t1, t2, t3, t4, t5, t6, t7, fun k k1 k2 => by rw [hi' (2465 + k) (by omega)]; exact t8 k k1 k2, t9, t10, t11, t12⟩
  · rw [l1.2.2.2.1 1801 (ff _ (by omega) (by omega)), l2.2.2.2.1 2403 (fg _ (by omega))]; exact h5
  · rw [hi 3 (by omega) (by omega), hi' 2447 (by omega)]
    rcases h6 with h6 | ⟨T, XL, h6⟩
    · exact Or.inl h6
    · exact Or.inr ⟨T, XL, bk_c (bk_r h6 (fun k h1 h2 => hi' k (by omega)) (fun k h1 h2 => ha' k (by omega))) (fun k hk => hi k (by omega) (by omega)) (fun k hk => ha k (by omega) (by omega)) hn⟩
set_option maxHeartbeats 200000 in
/-- FEED -/
theorem a_feed {x3 x4 x5 : Int32} (h : LR vc vr) : ∃ o vc' vr', fX11_feed x1 x2 x3 x4 x5 vc = some (o, vc') ∧ fX12_feed x1 x2 x3 x4 x5 vr = some (o, vr') ∧ LR vc' vr' ∧ lc bF vc vc' ∧ lc bG vr vr' := by
  have h' := LR_0 (x := 0) h
  obtain ⟨⟨L, t1, t2, t3, t4⟩, _⟩ := id h'
  have l1 : lc bF vc vc := lc_0
  have l2 : lc bG vr (q_si vr 2400 0) := lcI lc_0 rfl
  unfold fX11_feed fX12_feed
  rw [q_lt_s, t2, t3]
  have e20 : nI L + 20 = nI (L + 20) := (Int32.ofNat_add L 20).symm
  rw [e20]
  by_cases c : L + 20 ≤ 3000
  · have c1 : nI (L + 20) ≤ (3000 : Int32) := ni_ple (b := 3000) c (by omega)
    rw [if_pos c1, if_pos c1]
    have f0 : ft L vc (q_si vr 2400 0) := ⟨t2, t3, t4⟩
    obtain ⟨a1, b1, p1, q1, f0, l1, l2⟩ := fe_4 (x := x1) f0 (by omega) l1 l2
    obtain ⟨a2, b2, p2, q2, f0, l1, l2⟩ := fe_4 (x := x2) f0 (by omega) l1 l2
    obtain ⟨a3, b3, p3, q3, f0, l1, l2⟩ := fe_4 (x := x3) f0 (by omega) l1 l2
    obtain ⟨a4, b4, p4, q4, f0, l1, l2⟩ := fe_4 (x := x4) f0 (by omega) l1 l2
    obtain ⟨a5, b5, p5, q5, f0, l1, l2⟩ := fe_4 (x := x5) f0 (by omega) l1 l2
    rw [p1, q_bv_s, p2, q_bv_s, p3, q_bv_s, p4, q_bv_s, p5, q_bv_s, q1, q_bv_s, q2, q_bv_s, q3, q_bv_s, q4, q_bv_s, q5, q_bv_s]
    refine ⟨1, a5, b5, rfl, rfl, ?_, l1, l2⟩
    have ff : ∀ k, k ≠ 2206 → k ≠ 2200 → bF k = false := fun k h1 h2 => by
      unfold bF
      cases e : Nat.beq k 2200 with
      | true => exact absurd (Nat.eq_of_beq_eq_true e) h2
      | false =>
        cases e' : Nat.beq k 2206 with
        | true => exact absurd (Nat.eq_of_beq_eq_true e') h1
        | false => rfl
    have fg : ∀ k, 2402 < k → bG k = false := fun k h1 => by
      unfold bG
      rw [show Nat.ble k 2402 = false from by
        cases e : Nat.ble k 2402 with
        | false => rfl
        | true => have := Nat.le_of_ble_eq_true e; omega, Bool.and_false]
    exact LR_f h ⟨_, by omega, f0.1, f0.2.1, f0.2.2⟩ ff fg l1 l2
  · have c1 : ¬ nI (L + 20) ≤ (3000 : Int32) := ni_nle (b := 3000) (by omega) (by omega)
    rw [if_neg c1, if_neg c1]; exact ⟨0, vc, _, rfl, rfl, h', l1, l2⟩
end
