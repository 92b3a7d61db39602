/-- what the class leaves to the reference, and the reference to the class -/
def hk (v v' : q_V) : Prop := ∀ k, 2400 < k → q_i v' k = q_i v k ∧ q_a v' k = q_a v k ∧ q_b v' k = q_b v k
def lk (v v' : q_V) : Prop := (∀ k, k < 2400 → q_i v' k = q_i v k ∧ q_a v' k = q_a v k ∧ q_b v' k = q_b v k) ∧ q_n v' = q_n v
section
variable {v w v' w' vc vr vc' vr' : q_V} {x x1 x2 x3 x4 x5 : Int32}
set_option maxHeartbeats 200000 in
theorem hk_0 : hk v v := fun _ _ => ⟨rfl, rfl, rfl⟩
set_option maxHeartbeats 200000 in
theorem lk_0 : lk v v := ⟨fun _ _ => ⟨rfl, rfl, rfl⟩, rfl⟩
set_option maxHeartbeats 200000 in
theorem LRh (h : LR vc vr) (k : hk vr vr') : LR vc vr' := LR_r h (fun j hj => (k j hj).1) (fun j hj => (k j hj).2.1) (fun j hj => (k j hj).2.2)
set_option maxHeartbeats 200000 in
theorem LRl (h : LR vc vr) (k : lk vc vc') : LR vc' vr := LR_c h (fun j hj => (k.1 j hj).1) (fun j hj => (k.1 j hj).2.1) (fun j hj => (k.1 j hj).2.2) k.2
set_option maxHeartbeats 200000 in
theorem hk_lc {b : Nat → Bool} (h : lc b v v') (hb : ∀ k, 2400 < k → b k = false) : hk v v' := fun k hk => ⟨h.1 k (hb k hk), h.2.2.1 k (hb k hk), h.2.2.2.1 k (hb k hk)⟩
set_option maxHeartbeats 200000 in
theorem lk_lc {b : Nat → Bool} (h : lc b v v') (hb : ∀ k, k < 2400 → b k = false) : lk v v' := ⟨fun k hk => ⟨h.1 k (hb k hk), h.2.2.1 k (hb k hk), h.2.2.2.1 k (hb k hk)⟩, h.2.2.2.2.2.2⟩
set_option maxHeartbeats 200000 in
theorem lk_si {k : Nat} (h : lk v v') (hk : 2400 ≤ k) : lk v (q_si v' k x) := ⟨fun j hj => ⟨by rw [q_i_ne (by omega)]; exact (h.1 j hj).1, (h.1 j hj).2⟩, h.2⟩
set_option maxHeartbeats 200000 in
theorem lk_sa {k : Nat} {f : Nat → Int32} (h : lk v v') (hk : 2400 ≤ k) : lk v (q_sa v' k f) := ⟨fun j hj => ⟨(h.1 j hj).1, by rw [q_a_sa, if_neg (by omega)]; exact (h.1 j hj).2.1, (h.1 j hj).2.2⟩, h.2⟩
set_option maxHeartbeats 200000 in
theorem hk_si {k : Nat} (h : hk v v') (z : k ≤ 2400) : hk v (q_si v' k x) := fun j hj => ⟨by rw [q_i_ne (by omega)]; exact (h j hj).1, (h j hj).2⟩
set_option maxHeartbeats 200000 in
theorem hk_sa {k : Nat} {f : Nat → Int32} (h : hk v v') (z : k ≤ 2400) : hk v (q_sa v' k f) := fun j hj => ⟨(h j hj).1, by rw [q_a_sa, if_neg (by omega)]; exact (h j hj).2.1, (h j hj).2.2⟩
set_option maxHeartbeats 200000 in
theorem ble_f {a b : Nat} (h : b < a) : Nat.ble a b = false := by
  cases e : Nat.ble a b with
  | false => rfl
  | true => have := Nat.le_of_ble_eq_true e; omega
set_option maxHeartbeats 200000 in
theorem beq_f {a b : Nat} (h : a ≠ b) : Nat.beq a b = false := by
  cases e : Nat.beq a b with
  | false => rfl
  | true => exact absurd (Nat.eq_of_beq_eq_true e) h
set_option maxHeartbeats 200000 in
theorem bR_h : ∀ k, 2400 < k → bR k = false := fun k hk => by
  unfold bR
  rw [ble_f (a := k) (b := 204) (by omega), ble_f (a := k) (b := 604) (by omega), ble_f (a := k) (b := 814) (by omega), ble_f (a := k) (b := 1207) (by omega), ble_f (a := k) (b := 1402) (by omega), ble_f (a := k) (b := 2003) (by omega)]
  simp only [Bool.and_false, Bool.or_false]
set_option maxHeartbeats 200000 in
theorem bW_l : ∀ k, k < 2400 → bW k = false := fun k hk => by
  unfold bW
  rw [ble_f (a := 2463) (b := k) (by omega)]; rfl
set_option maxHeartbeats 200000 in
theorem bF_h : ∀ k, 2400 < k → bF k = false := fun k hk => by
  unfold bF
  rw [beq_f (a := k) (b := 2200) (by omega), beq_f (a := k) (b := 2206) (by omega)]; rfl
set_option maxHeartbeats 200000 in
theorem bG_l : ∀ k, k < 2400 → bG k = false := fun k hk => by
  unfold bG
  rw [ble_f (a := 2400) (b := k) (by omega)]; rfl
set_option maxHeartbeats 200000 in
/-- the two calls on one view -/
theorem glue {f r : q_V → Option (Int32 × q_V)} (A : ∀ vc vr, LR vc vr → ∃ o vc' vr', f vc = some (o, vc') ∧ r vr = some (o, vr') ∧ LR vc' vr' ∧ hk vc vc' ∧ lk vr vr') (h : LR v v) : ∃ o v1 v2, f v = some (o, v1) ∧ r v1 = some (o, v2) ∧ LR v2 v2 := by
  obtain ⟨o, v1, _, a1, _, _, a4, _⟩ := A v v h
  obtain ⟨o', v1', v2, b1, b2, b3, _, b5⟩ := A v v1 (LRh h a4)
  rw [a1] at b1
  cases b1
  exact ⟨o, v1, v2, a1, b2, LRl b3 b5⟩
set_option maxHeartbeats 200000 in
theorem g_0 {f r : q_V → Option (Int32 × q_V)} (A : ∀ vc vr, LR vc vr → ∃ o, f vc = some (o, vc) ∧ r vr = some (o, q_si vr 2400 0)) (h : LR v v) : ∃ o v1 v2, f v = some (o, v1) ∧ r v1 = some (o, v2) ∧ LR v2 v2 :=
  glue (fun vc vr h => by
    obtain ⟨o, a, b⟩ := A vc vr h
    exact ⟨o, vc, _, a, b, LR_0 h, hk_0, lk_si lk_0 (by omega)⟩) h
set_option maxHeartbeats 200000 in
theorem cw_k (h : cw vc vr vc' vr') : hk vc vc' ∧ lk vr vr' := by
  rcases h with ⟨h1, h2⟩ | ⟨k, j, f, g, k1, k2, j1, j2, h1, h2⟩
  · subst h1; subst h2; exact ⟨hk_0, lk_si lk_0 (by omega)⟩
  · subst h1; subst h2; exact ⟨hk_sa hk_0 (by omega), lk_sa (lk_si lk_0 (by omega)) (by omega)⟩
set_option maxHeartbeats 200000 in
theorem g_fault (h : LR v v) : ∃ o v1 v2, fX11_fault x v = some (o, v1) ∧ fX12_fault x v1 = some (o, v2) ∧ LR v2 v2 := g_0 (fun _ _ h => a_fault h) h
set_option maxHeartbeats 200000 in
theorem g_told (h : LR v v) : ∃ o v1 v2, fX11_told x v = some (o, v1) ∧ fX12_told x v1 = some (o, v2) ∧ LR v2 v2 := g_0 (fun _ _ h => a_told h) h
set_option maxHeartbeats 200000 in
theorem g_log (h : LR v v) : ∃ o v1 v2, fX11_log x1 x2 v = some (o, v1) ∧ fX12_log x1 x2 v1 = some (o, v2) ∧ LR v2 v2 := g_0 (fun _ _ h => a_log h) h
set_option maxHeartbeats 200000 in
theorem g_duty (h : LR v v) : ∃ o v1 v2, fX11_duty x1 x2 v = some (o, v1) ∧ fX12_duty_ x1 x2 v1 = some (o, v2) ∧ LR v2 v2 := g_0 (fun _ _ h => a_duty h) h
set_option maxHeartbeats 200000 in
theorem g_look (h : LR v v) : ∃ o v1 v2, fX11_look x1 x2 v = some (o, v1) ∧ fX12_look x1 x2 v1 = some (o, v2) ∧ LR v2 v2 := g_0 (fun _ _ h => a_look h) h
set_option maxHeartbeats 200000 in
theorem g_fill (h : LR v v) : ∃ o v1 v2, fX11_fill x1 x2 v = some (o, v1) ∧ fX12_fill x1 x2 v1 = some (o, v2) ∧ LR v2 v2 := glue (fun _ _ h => by
  obtain ⟨o, a, b, h1, h2, h3, h4⟩ := a_fill (x1 := x1) (x2 := x2) h
  exact ⟨o, a, b, h1, h2, h3, cw_k h4⟩) h
set_option maxHeartbeats 200000 in
theorem g_chamber (h : LR v v) : ∃ o v1 v2, fX11_chamber x1 x2 v = some (o, v1) ∧ fX12_chamber x1 x2 v1 = some (o, v2) ∧ LR v2 v2 := glue (fun _ _ h => by
  obtain ⟨o, a, b, h1, h2, h3, h4⟩ := a_chamber (x1 := x1) (x2 := x2) h
  exact ⟨o, a, b, h1, h2, h3, cw_k h4⟩) h
set_option maxHeartbeats 200000 in
theorem g_berth (h : LR v v) : ∃ o v1 v2, fX11_berth x1 x2 v = some (o, v1) ∧ fX12_berth x1 x2 v1 = some (o, v2) ∧ LR v2 v2 := glue (fun _ _ h => by
  obtain ⟨o, a, b, h1, h2, h3, h4⟩ := a_berth (x1 := x1) (x2 := x2) h
  exact ⟨o, a, b, h1, h2, h3, cw_k h4⟩) h
set_option maxHeartbeats 200000 in
theorem g_end (h : LR v v) : ∃ o v1 v2, fX11_end x v = some (o, v1) ∧ fX12_end x v1 = some (o, v2) ∧ LR v2 v2 := glue (fun _ _ h => by
  obtain ⟨o, a, b, h1, h2, h3, h4, h5⟩ := a_end (x := x) h
  refine ⟨o, a, b, h1, h2, h3, ?_, ?_⟩
  · rcases h4 with h4 | h4 <;> subst h4
    · exact hk_0
    · exact hk_si hk_0 (by omega)
  · rcases h5 with h5 | h5 <;> subst h5
    · exact lk_si lk_0 (by omega)
    · exact lk_si (lk_si lk_0 (by omega)) (by omega)) h
set_option maxHeartbeats 200000 in
theorem g_feed (h : LR v v) : ∃ o v1 v2, fX11_feed x1 x2 x3 x4 x5 v = some (o, v1) ∧ fX12_feed x1 x2 x3 x4 x5 v1 = some (o, v2) ∧ LR v2 v2 := glue (fun _ _ h => by
  obtain ⟨o, a, b, h1, h2, h3, h4, h5⟩ := a_feed (x1 := x1) (x2 := x2) (x3 := x3) (x4 := x4) (x5 := x5) h
  exact ⟨o, a, b, h1, h2, h3, hk_lc h4 bF_h, lk_lc h5 bG_l⟩) h
set_option maxHeartbeats 200000 in
/-- RUN on one view -/
theorem g_run (h : LR v v) : (∃ e v2, (e = 1 ∨ e = 2) ∧ rx x1 x4 v = e ∧ (∀ N, ru_all N x1 x2 x3 x4 v = some (0, v2)) ∧ q_i v2 2400 = e ∧ LR v2 v2) ∨ (rx x1 x4 v = 0 ∧ ∃ N o v1 v2, fX4_performR x1 x2 x3 x4 v = some (o, v1) ∧ ru_all N x1 x2 x3 x4 v1 = some (o, v2) ∧ q_i v2 2400 = 0 ∧ LR v2 v2) := by
  rcases a_runs (x1 := x1) (x2 := x2) (x3 := x3) (x4 := x4) h with ⟨e, e1, e2, e3⟩ | ⟨e1, N, o, v1, _, a1, _, _, a4, _⟩
  · left
    refine ⟨e, _, e1, e2, e3, by rw [q_i_si, if_pos rfl], LRl (LR_0 (LR_0 h)) (lk_si (lk_si lk_0 (by omega)) (by omega))⟩
  · right
    refine ⟨e1, ?_⟩
    rcases a_runs (x1 := x1) (x2 := x2) (x3 := x3) (x4 := x4) (LRh h (hk_lc a4 bR_h)) with ⟨e, z1, z2, _⟩ | ⟨_, N', o', v1', v2, b1, b2, b3, b4, b5⟩
    · rw [e1] at z2; rcases z1 with z | z <;> rw [z] at z2 <;> exact absurd z2 (by decide)
    · rw [a1] at b1
      cases b1
      refine ⟨N', o, v1, v2, a1, b2, by rw [b5.1 2400 rfl, q_i_si, if_pos rfl], LRl b3 ?_⟩
      have k1 := lk_lc b5 bW_l
      have k2 : lk v1 (q_si v1 2400 0) := lk_si lk_0 (by omega)
      exact ⟨fun k hk => ⟨(k1.1 k hk).1.trans (k2.1 k hk).1, (k1.1 k hk).2.1.trans (k2.1 k hk).2.1, (k1.1 k hk).2.2.trans (k2.1 k hk).2.2⟩, k1.2.trans k2.2⟩
set_option maxHeartbeats 200000 in
/-- READ on one view: vD with the new book, vO at the class's end -/
theorem g_read {vD : q_V} {L : Nat} (h : LR v v) (hL : q_i v 2206 = nI L) (hL3 : L ≤ 3000) (d1 : ∀ k, 4 ≤ k → q_a vD k = q_a v k ∧ q_b vD k = q_b v k) (d2 : q_i vD 1 = 0 ∧ q_i vD 3 = 0 ∧ q_n vD 0 = 2 * L + 16 ∧ q_n vD 2 = 150) :
    ∃ v1 o pl, fX8_readTextR (nI L) vD = some v1 ∧ fX8_faultKind v1 = some (o, v1) ∧ fX8_faultPlace v1 = some (pl, v1) ∧ rdk vD v1 ∧ ∀ vO, hk v vO → (q_i vO 2206 = 0 ∧ q_i vO 2207 = o ∧ q_i vO 2208 = pl) → (∀ k, 4 ≤ k → k < 1000 ∨ 1013 ≤ k → q_a vO k = q_a v1 k ∧ q_b vO k = q_b v1 k) → (o = 0 → (∀ k, k < 4 → q_i vO k = q_i v1 k ∧ q_a vO k = q_a v1 k) ∧ q_n vO = q_n v1) → (o ≠ 0 → (∀ k, k < 4 → q_i vO k = q_i v k ∧ q_a vO k = q_a v k) ∧ q_n vO = q_n v) → ∃ v2, fX12_read vO = some (o, v2) ∧ LR v2 v2 := by
  obtain ⟨v1, _, o, pl, a1, _, a3, a4, a5, _, _, _⟩ := a_read h hL hL3 d1 d2
  refine ⟨v1, o, pl, a1, a3, a4, a5, fun vO k0 k1 k2 k3 k4 => ?_⟩
  obtain ⟨v1', w1, o', pl', b1, b2, b3, b4, b5, b6, b7, b8⟩ := a_read (LRh h k0) hL hL3 d1 d2
  rw [a1] at b1
  cases b1
  rw [a3] at b3
  rw [a4] at b4
  cases b3; cases b4
  exact ⟨w1, b2, LRl (b8 vO k1 k2 k3 k4) ⟨fun k hk => b6.1 k (Or.inl hk), b6.2.2.2.2⟩⟩
end
