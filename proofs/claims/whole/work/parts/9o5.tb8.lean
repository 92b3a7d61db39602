/-- a book that both hold -/
def bk (T : co_T) (XL : Int32 → Int32 → Int32 → Prop) (v w : q_V) : Prop := ru_S T v w ∧ dv_D T XL ∧ dv_L T XL ∧ ∃ D, 0 < D ∧ D ≤ 30 ∧ q_i v 3 = nI D ∧ q_i w 2462 = nI D ∧ q_i w 2447 = 1 ∧ ∀ j, j < D → (∃ k pe qe, T.2.2.2 j = some (k, pe, qe) ∧ q_a w 2458 j = nI k) ∧ q_a v 2 (5 * j) = q_a w 2458 j ∧ q_a v 2 (5 * j + 1) = q_a w 2459 j ∧ q_a v 2 (5 * j + 2) = q_a w 2460 j ∧ q_a v 2 (5 * j + 3) = q_a w 2461 j
section
variable {g : rd_G} {i p q d e e' : Nat} {C : Nat → Int32} {r : Int32} {R : Nat → Nat → Int32} {K : rd_K} {A : rd_A} {v w v0 w0 v1 w1 u u' : q_V} {f x : Int32} {Y : rd_Y}
set_option maxHeartbeats 200000 in
theorem rdP_all : ∀ K : rd_K, rd_N ≤ rdP g K → ∀ c, c ∈ K → rd_N ≤ bv g c := by
  intro K
  induction K with
  | nil => intro _ c hc; exact absurd hc (by simp)
  | cons a t ih =>
    intro h c hc
    have e : rdP g (a :: t) = min (bv g a) (rdP g t) := rfl
    rw [e] at h
    rcases List.mem_cons.1 hc with z | z
    · rw [z]; omega
    · exact ih (by omega) c z
set_option maxHeartbeats 200000 in
/-- what a text without a fault leaves -/
theorem t_book {dl : List rd_R} (G : GT g) (c261 : tkc g i = 261) (hD0 : 0 < dl.length) (X : TX g v0 w0 dl i p C q d r R K A rd_N e' Y v w) (I : in5 g e' R w K u) (fk : (∀ k, k ≠ 2447 → k ≠ 2462 → q_i u' k = q_i u k) ∧ q_i u' 2447 = 1 ∧ q_i u' 2462 = nI dl.length ∧ (∀ k, ¬ (2448 ≤ k ∧ k ≤ 2461) → q_a u' k = q_a u k)) (k7' : k7 u u' q) (k59' : k59 u u' d) (k155' : k155 u u' dl.length) : ∃ T XL, bk T XL v u' := by
  obtain ⟨⟨ok, kv, kw⟩, ⟨k, s, l, b, sc⟩, ⟨z1, z2, z3, z4, z5⟩, ⟨nC, cr⟩, ⟨fn, f3, f33⟩, FT, FE, SEM⟩ := X
  have hL : gL g ≤ 3000 := ok.1
  have ta : tka g i ≤ gL g := (tk_al ok.1 i).2
  have hDm : (dl.map (fun r : rd_R => (r.1, r.2.1))).length = dl.length := List.length_map ..
  obtain ⟨eg, et⟩ := TX_end G cr c261 (by rw [hDm]; omega)
  rw [hDm] at eg
  obtain ⟨h30, h8⟩ := FE rfl
  obtain ⟨I1, I2, I3, I4⟩ := I
  have hN : rd_N = 1000000 := rfl
  have sm := sc.2.2.2.2.2.2
  have hall := rdP_all (g := g) K (by omega)
  have skl := sK_lt sc.2.2.1.2.2.1
  have eR : ∀ j, j < 9 → q_a w (rdj j) = R j := sc.2.2.1.2.1
  have hget : ∀ j, j < dl.length → ∃ rc, dl[j]? = some rc ∧ rc ∈ dl := fun j hj => ⟨dl[j], List.getElem?_eq_getElem hj, List.getElem_mem hj⟩
  let T : co_T := (C, p, fun j => q_a u' (2448 + j), fun j => (dl[j]?).map (fun rc => (rc.2.1, rc.2.2.2.1, rc.2.2.2.2.2.1)))
  have eT : ∀ j rc, dl[j]? = some rc → T.2.2.2 j = some (rc.2.1, rc.2.2.2.1, rc.2.2.2.2.2.1) := fun j rc hj => by
    show (dl[j]?).map _ = _
    rw [hj]; rfl
  have eT2 : ∀ j k pe qe, T.2.2.2 j = some (k, pe, qe) → ∃ rc, dl[j]? = some rc ∧ rc ∈ dl ∧ j < dl.length ∧ k = rc.2.1 ∧ pe = rc.2.2.2.1 ∧ qe = rc.2.2.2.2.2.1 := fun j k pe qe hj => by
    rcases Nat.lt_or_ge j dl.length with z | z
    · obtain ⟨rc, h1, h2⟩ := hget j z
      rw [eT j rc h1] at hj
      have := Option.some.inj hj
      have a1 := (Prod.mk.inj this)
      have a2 := (Prod.mk.inj a1.2)
      exact ⟨rc, h1, h2, z, a1.1.symm, a2.1.symm, a2.2.symm⟩
    · have : T.2.2.2 j = none := by show (dl[j]?).map _ = _; rw [List.getElem?_eq_none z]; rfl
      rw [this] at hj; cases hj
  have uq : ∀ kk, kk ≠ 2415 → q_a u kk = q_a w kk := I1.2.2.1
  have hT' : hT g T := fun j hj => by
    obtain ⟨rc, h1, h2⟩ := hget j (by omega)
    exact ⟨rc.2.1, rc.2.2.2.1, rc.2.2.2.2.2.1, (et j (rc.1, rc.2.1) (by rw [List.getElem?_map, h1]; rfl)).2, h8 rc h2, eT j rc h1⟩
  have hag : ag g T C R K 0 p 0 q 0 d := by
    refine ⟨fun x _ hx => ⟨hx, rfl⟩, fun x _ hx => ⟨by omega, ?_, ?_, fun h19 => ?_⟩, fun x _ hx => ⟨by omega, fun j h3 h9 => ?_⟩, fun c hc => ?_⟩
    · show q_a u' 2448 x = R 0 x
      rw [(k7' x hx).1, uq 2414 (by omega)]; exact congrFun (eR 0 (by omega)) x
    · show q_a u' 2450 x = R 2 x
      rw [(k7' x hx).2.2, uq 2416 (by omega)]; exact congrFun (eR 2 (by omega)) x
    · show q_a u' 2449 x = R 1 x
      rw [(k7' x hx).2.1]
      exact I3 x (fun c hc z => h19 (by rw [← z]; exact (skl c hc).2.2))
    · show q_a u' (2448 + j) x = R j x
      rw [show 2448 + j = 2451 + (j - 3) by omega, k59' (j - 3) x (by omega) hx, uq (2418 + (j - 3)) (by omega), ← eR j h9]
      unfold rdj; rw [if_neg (by omega), show 2418 + (j - 3) = 2415 + j by omega]
    · show q_a u' 2449 c.2.2.2 = nI (fdn g c.1)
      rw [(k7' _ (skl c hc).1).2.1, I4 c hc]
      refine if_pos ?_
      have hb := hall c hc
      have hta : tka g c.2.1 ≤ gL g := (tk_al ok.1 _).2
      unfold bv at hb
      rcases Nat.lt_or_ge (fdn g c.1) (gd g) with z | z
      · exact z
      · rw [if_neg (by omega)] at hb; omega
  refine ⟨T, fun x y z => ∃ t, t ∈ Y ∧ x = nI t.1 ∧ y = nI t.2.1 ∧ z = t.2.2.1, ?_⟩
  obtain ⟨S1, S2⟩ := SEM T (fun x y z => ∃ t, t ∈ Y ∧ x = nI t.1 ∧ y = nI t.2.1 ∧ z = t.2.2.1) hT' hag rfl (fun y hy => ⟨y, hy, rfl, rfl, rfl⟩)
  have hn0 : q_n v 0 = 2 * gL g + 16 := ok.2.2.2.2.2.1
  refine ⟨⟨sc.2.1.2, ⟨sc.2.1.1, by rw [hn0]; show p ≤ _; omega, by rw [hn0]; omega⟩, ⟨rfl, rfl, rfl, rfl, rfl, rfl, rfl, rfl, rfl⟩, fn, dl.length, h30, f3, fun j k pe qe hj => ?_⟩, fun j k pe qe hj => ?_, fun x y z hx => ?_, dl.length, hD0, h30, f3, fk.2.2.1, fk.2.1, fun j hj => ?_⟩
  · obtain ⟨rc, h1, h2, h3, e1, e2, e3⟩ := eT2 j k pe qe hj
    obtain ⟨F1, F2, F3, F4, F5, F6, F7⟩ := FT j rc h1
    obtain ⟨G1, G2, G3, G4, G5⟩ := F1 (by omega)
    refine ⟨h3, by rw [e1]; exact h8 rc h2, by rw [e1]; exact G1, by rw [e2]; exact G5, ?_⟩
    rw [(k155' j h3).1, uq 2430 (by omega), e3]; exact F5
  · obtain ⟨rc, h1, h2, h3, e1, e2, e3⟩ := eT2 j k pe qe hj
    obtain ⟨a, b, c, d⟩ := S1 rc h2
    exact ⟨rc.2.2.2.2.1, rc.2.2.2.2.2.2.1, a, by rw [e2, e3]; exact b, c, d⟩
  · obtain ⟨t, ht, ex, ey, ez⟩ := hx
    obtain ⟨l1, l2, l3, l4, l5, l6, l7⟩ := S2 t ht
    exact ⟨t.1, t.2.1, t.2.2.2.1, t.2.2.2.2.1, t.2.2.2.2.2, ex, ey, by rw [ez]; exact l1, l2, l3, l4, l5, l6, l7⟩
  · obtain ⟨rc, h1, h2⟩ := hget j hj
    obtain ⟨F1, F2, F3, F4, F5, F6, F7⟩ := FT j rc h1
    obtain ⟨G1, G2, G3, G4, G5⟩ := F1 (by omega)
    obtain ⟨q1, q2, q3, q4, q5⟩ := k155' j hj
    rw [q2, q3, q4, q5, uq 2428 (by omega), uq 2429 (by omega), uq 2431 (by omega), uq 2432 (by omega)]
    refine ⟨⟨rc.2.1, rc.2.2.2.1, rc.2.2.2.2.2.1, eT j rc h1, F3⟩, G1.trans F3.symm, G2.trans F4.symm, G3.trans F6.symm, G4.trans F7.symm⟩
end
