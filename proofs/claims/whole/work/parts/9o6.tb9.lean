def wz (w : q_V) : q_V := q_si (q_si (q_si (q_si (q_si (q_si (q_si (q_si (q_si (q_si w 2402 0) 2408 0) 2409 (-1)) 2412 0) 2410 0) 2411 0) 2417 0) 2424 0) 2433 0) 2438 0
/-- what a reading of the reference leaves alone -/
def rdW (w0 w : q_V) : Prop := (∀ k, (k < 2400 ∨ k = 2401 ∨ k = 2403 ∨ 2463 ≤ k) → q_i w k = q_i w0 k ∧ q_a w k = q_a w0 k ∧ q_b w k = q_b w0 k) ∧ (∀ k, k ≠ 2426 → q_j w k = q_j w0 k) ∧ q_f w = q_f w0 ∧ q_c w = q_c w0 ∧ q_n w = q_n w0
section
variable {v w v0 w0 v1 w1 u u' : q_V} {f x : Int32}
set_option maxHeartbeats 200000 in
theorem wz_K (h : tk_fr (q_si w0 2400 0) w) : (∀ k, (k < 2400 ∨ k = 2401 ∨ k = 2403 ∨ 2447 ≤ k) → q_i (wz w) k = q_i w0 k ∧ q_a (wz w) k = q_a w0 k ∧ q_b (wz w) k = q_b w0 k) ∧ (∀ k, q_j (wz w) k = q_j w0 k) ∧ q_f (wz w) = q_f w0 ∧ q_c (wz w) = q_c w0 ∧ q_n (wz w) = q_n w0 ∧ q_i (wz w) 2400 = 0 ∧ q_i (wz w) 2402 = 0 := by
  refine ⟨fun k hk => ⟨?_, ?_, ?_⟩, fun k => ?_, ?_, ?_, ?_, ?_, rfl⟩
  · unfold wz
    rw [q_i_ne (by omega), q_i_ne (by omega), q_i_ne (by omega), q_i_ne (by omega), q_i_ne (by omega), q_i_ne (by omega), q_i_ne (by omega), q_i_ne (by omega), q_i_ne (by omega), q_i_ne (by omega), h.1 k (by omega), q_i_ne (by omega)]
  · exact h.2.2.1 k (by omega) (by omega)
  · exact h.2.2.2.1 k (by omega)
  · exact congrFun h.2.1 k
  · exact h.2.2.2.2.1
  · exact h.2.2.2.2.2.1
  · exact h.2.2.2.2.2.2
  · unfold wz
    rw [q_i_ne (by omega), q_i_ne (by omega), q_i_ne (by omega), q_i_ne (by omega), q_i_ne (by omega), q_i_ne (by omega), q_i_ne (by omega), q_i_ne (by omega), q_i_ne (by omega), q_i_ne (by omega), h.1 2400 (by omega), q_i_at]
set_option maxHeartbeats 200000 in
theorem rdW_of (h : tk_fr (q_si w0 2400 0) w) (k : rdK (wz w) w1) : rdW w0 w1 ∧ q_i w1 2400 = 0 ∧ q_i w1 2402 = 0 ∧ ∀ k, 2447 ≤ k → q_i w1 k = q_i w0 k ∧ q_a w1 k = q_a w0 k := by
  obtain ⟨h1, h2, h3, h4, h5, h6, h7⟩ := wz_K h
  refine ⟨⟨fun j hj => ?_, fun j hj => (k.2.1 j hj).trans (h2 j), k.2.2.1.trans h3, k.2.2.2.1.trans h4, k.2.2.2.2.trans h5⟩, (k.1 2400 (by omega)).1.trans h6, (k.1 2402 (by omega)).1.trans h7, fun j hj => ?_⟩
  · have a := k.1 j (by omega)
    have b := h1 j (by omega)
    exact ⟨a.1.trans b.1, a.2.1.trans b.2.1, a.2.2.trans b.2.2⟩
  · have a := k.1 j (by omega)
    have b := h1 j (by omega)
    exact ⟨a.1.trans b.1, a.2.1.trans b.2.1⟩
set_option maxHeartbeats 200000 in
/-- READ: the class and the reference, side by side -/
theorem t_read {tp : Nat → Int32} {L : Nat} (hL : L ≤ 3000) (hb : ∀ j, j < L → ∃ b, b < 128 ∧ tp j = nI b) (c1 : ∀ j, j < L → q_a v0 2200 j = tp j) (c2 : ∀ j, j < 40 → q_b v0 1801 j = kw_c j) (c3 : q_n v0 0 = 2 * L + 16) (c4 : q_n v0 2 = 150) (c5 : q_i v0 1 = 0) (c6 : q_i v0 3 = 0) (hr : tk_v tp L kw_c w0) :
    ∃ v1 w1 o pl, fX8_readTextR (nI L) v0 = some v1 ∧ fX12_read w0 = some (o, w1) ∧ fX8_faultKind v1 = some (o, v1) ∧ fX8_faultPlace v1 = some (pl, v1) ∧ q_i w1 2408 = o ∧ rdk v0 v1 ∧ rdW w0 w1 ∧ q_i w1 2400 = 0 ∧ q_i w1 2402 = 0 ∧ q_i w1 2409 = pl ∧ ((o ≠ 0 ∧ ∀ k, 2447 ≤ k → q_i w1 k = q_i w0 k ∧ q_a w1 k = q_a w0 k) ∨ (o = 0 ∧ ∃ T XL, bk T XL v1 w1)) := by
  have hN : rd_N = 1000000 := rfl
  -- the class looks for duties
  have ok0 : tO (tp, L, 0, fun _ => 0, fun _ => 0, 0, v0, w0) := ⟨hL, hb⟩
  obtain ⟨v7, a7, k7', f7, _, _⟩ := k_start (v := q_si (q_si (q_si v0 1002 0) 1011 0) 1012 (-1)) ok0 (fun j hj => c1 j hj) (fun j hj => c2 j hj)
  obtain ⟨v8, nc, ls, E, a8, cr, cE, tb, f8⟩ := k_coll ok0 (L - tka (tp, L, 0, fun _ => 0, fun _ => 0, 0, v0, w0) 0) 0 [] 0 q_N v7 rfl (Nat.zero_le _) (by unfold q_N; omega) k7' ⟨(f7.1 1002 (by omega)).trans rfl, fun j hj => absurd hj (by simp)⟩
  rw [List.nil_append] at tb
  obtain ⟨v10, a10, k10, f10, n10, t10⟩ := k_start (v := v8) ok0 (fun j hj => by rw [f8.2.2.1 2200 (by omega), f7.2.2.1]; exact c1 j hj) (fun j hj => by rw [f8.2.2.2.1 1801 (by omega), f7.2.2.2.1]; exact c2 j hj)
  -- the reference's tokens
  obtain ⟨m, w2, b2, R2, E2, fr2⟩ := tk_scan (tp := tp) (L := L) (kw := kw_c) (v := q_si w0 2400 0) ⟨by rw [q_i_ne (by omega)]; exact hr.1, hr.2⟩
  -- the text
  have r10 : rdk v0 v10 := rdk_9 (rdk_c (rdk_9 (rdk_i (rdk_i (rdk_i rdk_0 (by omega)) (by omega)) (by omega)) f7) f8) f10
  have i10 : ∀ k, (k < 1002 ∨ 1003 ≤ k ∧ k < 1802) → q_i v10 k = q_i (q_si (q_si (q_si v0 1002 0) 1011 0) 1012 (-1)) k := fun k hk => by rw [f10.1 k (by omega), f8.1 k (by omega), f7.1 k (by omega)]
  have nn : q_n v10 = q_n v0 := by rw [f10.2.2.2.2.2.2, f8.2.2.2.2.2.2, f7.2.2.2.2.2.2]; rfl
  have ok : rd_ok (reb (tp, L, m, q_b v10 1000, q_a v10 1001, min 300 ls.length, v10, wz w2) v10 (wz w2)) := by
    refine ⟨hL, hb, E2, by show min 300 ls.length ≤ 300; omega, k10.1, by show q_n v10 0 = 2 * L + 16; rw [nn]; exact c3, ⟨?_, fun j hj => ⟨rfl, rfl⟩⟩, R2⟩
    show q_i v10 1002 = nI (min 300 ls.length)
    rw [f10.1 1002 (by omega)]; exact tb.1
  have G : GT (tp, L, m, q_b v10 1000, q_a v10 1001, min 300 ls.length, v10, wz w2) := by
    refine ⟨nc, ls, E, CR_eq (by rfl) (by rfl) nc 0 ls E cr, cE, rfl, fun j hj => ?_⟩
    obtain ⟨y, y1, y2⟩ := tb.2 j hj
    refine ⟨y, ?_, ?_⟩
    · show ls[j]? = some (q_b v10 1000 j, y)
      rw [f10.2.2.2.1]; exact y1
    · show q_a v10 1001 j = nI y
      rw [f10.2.2.1]; exact y2
  have X0 : TY (tp, L, m, q_b v10 1000, q_a v10 1001, min 300 ls.length, v10, wz w2) v0 (wz w2) [] 0 0 (q_a v10 0) 0 0 (q_i (wz w2) 2425) (fun j => q_a (wz w2) (rdj j)) [] rd_N rd_N [] v10 (wz w2) := by
    refine ⟨⟨ok, r10, rdK_0⟩, ⟨⟨k10.2.1, n10, k10.2.2.1, k10.2.2.2.1, k10.2.2.2.2.1, k10.2.2.2.2.2, t10, Nat.zero_le _, by omega⟩, ⟨(i10 1 (by omega)).trans (by rw [q_i_ne (by omega), q_i_ne (by omega), q_i_ne (by omega)]; exact c5), rfl⟩, ⟨⟨rfl, rfl, rfl, rfl, rfl, rfl, rfl⟩, fun j _ => rfl, trivial, Nat.zero_le _, by omega⟩, Or.inl ⟨rfl, ?_, fun _ => ?_⟩, Or.inl ⟨rfl, rfl, rfl⟩, rfl⟩, ⟨by simp, by omega, by omega, by simp, by omega⟩, ⟨0, rfl, rfl⟩, ⟨by rw [nn]; exact c4, ?_, rfl⟩, fun j r hj => by simp at hj, fun _ => ⟨by simp, fun r hr => absurd hr (by simp)⟩, fun T XL _ _ _ _ => ⟨fun r hr => absurd hr (by simp), fun y hy => absurd hy (by simp)⟩⟩
    · rw [i10 1011 (by omega), q_i_ne (by omega), q_i_at]
    · rw [i10 1012 (by omega), q_i_at]
    · rw [i10 3 (by omega), q_i_ne (by omega), q_i_ne (by omega), q_i_ne (by omega)]; exact c6
  obtain ⟨v1, w1, t1, t2, J⟩ := t_text G (x2 := nI L) 301 [] 0 0 _ 0 0 _ _ [] rd_N rd_N [] v10 (wz w2) q_N q_N rfl (by unfold q_N; omega) (by unfold q_N; omega) X0
  have cT : fX8_readTextR (nI L) v0 = some v1 := by
    unfold fX8_readTextR fX5_clear fX8_collectDuties
    rw [q_lt_s, q_lt_s, q_lt_s, q_bv_s]
    have a7' : fX9_start (nI L) (q_si (q_si (q_si v0 1002 0) 1011 0) 1012 (-1)) = some v7 := a7
    have a10' : fX9_start (nI L) v8 = some v10 := a10
    have a8' : fX8_collectDuties_L2 q_N 0 v7 = some v8 := a8
    rw [a7', q_bv_s, a8', q_bv_s, a10', q_bv_s]
    exact t1
  have rT : ∀ (W : Option q_V), fX12_text_b23 w1 = W → fX12_read w0 = q_bv W (fun T13 => if (q_i T13 2408) = 0 then if (q_i T13 2412) ≤ 0 then fX12_read_b93 T13 else q_lt (q_si T13 2408 ((q_i T13 2412))) (fun T14 => q_lt (q_si T14 2409 ((q_i T14 2413))) (fun T15 => fX12_read_b93 T15)) else fX12_read_b93 T13) := by
    intro W hW
    unfold fX12_read
    rw [q_lt_s, b2, q_bv_s, q_lt_s, q_lt_s, q_lt_s, q_lt_s, q_lt_s, q_lt_s, q_lt_s, q_lt_s, q_lt_s, q_lt_s, txt_0]
    have : txt (fX12_text_L0 q_N) (wz w2) = W := t2.trans hW
    unfold wz at this
    rw [this]
  rcases J with ⟨f, x, x1, y1⟩ | ⟨dl, i, p, C, q, d, r, R, K, A, e, e', Y, c261, hD0, X⟩
  · -- a fault of a token
    have ne : ¬ f = 0 := fun z => by have := y1.2.2.2; rw [z] at this; exact absurd this (by decide)
    obtain ⟨d1, d2, d3, d4⟩ := rdW_of fr2 y1.1
    refine ⟨v1, w1, f, x, cT, ?_, ?_, ?_, y1.2.1, x1.1, d1, d2, d3, y1.2.2.1, Or.inl ⟨ne, d4⟩⟩
    · rw [rT _ (xR_23 y1), q_bv_s, if_neg (by rw [y1.2.1]; exact ne)]
      unfold fX12_read_b93 fX12_read_b104
      rw [if_neg (by rw [y1.2.1]; exact ne), y1.2.1]
    · unfold fX8_faultKind fX8_faultKind_b27
      rw [if_neg (by rw [x1.2.2.1]; exact ne), x1.2.2.1]
    · unfold fX8_faultPlace fX8_faultPlace_b27
      rw [if_neg (by rw [x1.2.2.1]; exact ne), x1.2.2.2.1]
  · have X' := X
    obtain ⟨⟨okX, kv, kw⟩, ⟨k, s, l, b, sc⟩, ⟨z1, z2, z3, z4, z5⟩, ⟨nC, crX⟩, ⟨fn, f3, f33⟩, FT, FE, SEM⟩ := X'
    have ta : tka (tp, L, m, q_b v10 1000, q_a v10 1001, min 300 ls.length, v10, wz w2) i ≤ L := (tk_al okX.1 i).2
    have hDm : (dl.map (fun r : rd_R => (r.1, r.2.1))).length = dl.length := List.length_map ..
    obtain ⟨eg, et⟩ := TX_end G crX c261 (by rw [hDm]; omega)
    rw [hDm] at eg
    obtain ⟨u, u1, I⟩ := t_L25 okX sc.2.2.1 sc.2.2.2.2.2.1 (by omega) (by omega) (by rw [eg]; exact f33) (fun j hj => by
      rw [eg] at hj
      have h1 : dl[j]? = some dl[j] := List.getElem?_eq_getElem hj
      have h2 := FT j _ h1
      have h3 := et j ((dl[j]).1, (dl[j]).2.1) (by rw [List.getElem?_map, h1]; rfl)
      exact ⟨h2.2.1.trans h3.1.symm, h2.2.2.1.trans h3.2.symm⟩)
    have h0 : q_i v1 1809 = 0 := sc.1.2.2.2.2.2.2.1
    have u08 : q_i u 2408 = 0 := (I.1.1 2408 (by omega) (by omega)).trans sc.2.2.1.1.1
    have bu := I.2.1
    rw [← sc.2.2.2.2.2.2] at bu
    have ku : rdK (wz w2) u := ⟨fun j hj => ⟨(I.1.1 j (by omega) (by omega)).trans (kw.1 j hj).1, (I.1.2.2.1 j (by omega)).trans (kw.1 j hj).2.1, by rw [I.1.2.2.2.1]; exact (kw.1 j hj).2.2⟩, fun j hj => by rw [I.1.2.1]; exact kw.2.1 j hj, I.1.2.2.2.2.1.trans kw.2.2.1, I.1.2.2.2.2.2.1.trans kw.2.2.2.1, I.1.2.2.2.2.2.2.trans kw.2.2.2.2⟩
    have bc := sc.2.2.2.2.1
    have kind : fX8_faultKind v1 = some (q_i v1 1011, v1) := by
      unfold fX8_faultKind fX8_faultKind_b27
      rw [if_pos h0]
    have place : fX8_faultPlace v1 = some (q_i v1 1012, v1) := by
      unfold fX8_faultPlace fX8_faultPlace_b27
      rw [if_pos h0]
    by_cases ce : e = rd_N
    · subst ce
      obtain ⟨h30, h8⟩ := FE rfl
      have b0 : q_i v1 1011 = 0 ∧ q_i v1 1012 = -1 := by
        rcases bc with bc | bc
        · exact ⟨bc.2.1, bc.2.2 rfl⟩
        · exact absurd bc.1 (by omega)
      have b1 : q_i u 2412 = 0 ∧ q_i u 2409 = -1 := by
        rcases bu with bu | bu
        · exact bu.2
        · exact absurd bu.1 (by omega)
      obtain ⟨u', g1, g2, g3, g4, g5, g6, g7, g8, g9, g10, g11⟩ := t_keep (u := u) (q := q) (d := d) (D := dl.length) ((I.1.1 2417 (by omega) (by omega)).trans sc.2.2.1.1.2.2.2.1) (by omega) ((I.1.1 2424 (by omega) (by omega)).trans sc.2.2.1.1.2.2.2.2.1) (by omega) ((I.1.1 2433 (by omega) (by omega)).trans f33) h30
      obtain ⟨d1, d2, d3, d4⟩ := rdW_of fr2 ku
      have e08 : q_i u' 2408 = 0 := (g2 2408 (by omega) (by omega)).trans u08
      refine ⟨v1, u', 0, -1, cT, ?_, by rw [kind, b0.1], by rw [place, b0.2], e08, kv, ⟨fun j hj => ?_, fun j hj => by rw [g5]; exact d1.2.1 j hj, g8.1.trans d1.2.2.1, g8.2.1.trans d1.2.2.2.1, g8.2.2.trans d1.2.2.2.2⟩, (g2 2400 (by omega) (by omega)).trans d2, (g2 2402 (by omega) (by omega)).trans d3, (g2 2409 (by omega) (by omega)).trans b1.2, Or.inr ⟨rfl, t_book G c261 hD0 X I ⟨g2, g3, g4, g6⟩ g9 g10 g11⟩⟩
      · rw [rT _ u1, q_bv_s, if_pos u08, if_pos (by rw [b1.1]; decide)]
        unfold fX12_read_b93 fX12_read_b104
        rw [if_pos u08, g1, q_bv_s, e08]
      · have a := d1.1 j hj
        exact ⟨(g2 j (by omega) (by omega)).trans a.1, (g6 j (by omega)).trans a.2.1, by rw [g7]; exact a.2.2⟩
    · obtain ⟨e1, e2, e3, e4⟩ : e < rd_N ∧ 0 < e % 16 ∧ q_i v1 1011 = nI (e % 16) ∧ q_i v1 1012 = nI (e / 16) := by
        rcases bc with bc | bc
        · exact absurd bc.1 ce
        · exact bc
      obtain ⟨_, _, e5, e6⟩ : e < rd_N ∧ 0 < e % 16 ∧ q_i u 2412 = nI (e % 16) ∧ q_i u 2413 = nI (e / 16) := by
        rcases bu with bu | bu
        · exact absurd bu.1 ce
        · exact bu
      have ne : ¬ nI (e % 16) = 0 := by rw [show (0 : Int32) = nI 0 from rfl, ni_eq (by omega) (by omega)]; omega
      have nl : ¬ nI (e % 16) ≤ 0 := by rw [show (0 : Int32) = nI 0 from rfl, ni_le (by omega) (by omega)]; omega
      have kk : rdK (wz w2) (q_si (q_si u 2408 (nI (e % 16))) 2409 (nI (e / 16))) := rdK_i (rdK_i ku (by omega)) (by omega)
      obtain ⟨d1, d2, d3, d4⟩ := rdW_of fr2 kk
      have e08 : q_i (q_si (q_si u 2408 (nI (e % 16))) 2409 (nI (e / 16))) 2408 = nI (e % 16) := by rw [q_i_ne (by omega), q_i_at]
      refine ⟨v1, _, nI (e % 16), nI (e / 16), cT, ?_, by rw [kind, e3], by rw [place, e4], e08, kv, d1, d2, d3, q_i_at, Or.inl ⟨ne, d4⟩⟩
      rw [rT _ u1, q_bv_s, if_pos u08, e5, if_neg nl, q_lt_s, q_lt_s, q_i_ne (by omega), e6]
      unfold fX12_read_b93 fX12_read_b104
      rw [e08, if_neg ne]
end
