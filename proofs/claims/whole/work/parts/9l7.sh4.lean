section
variable {l : Nat} {o : Int32} {z : Int64}
set_option maxHeartbeats 200000 in
theorem wy_n5 (h : wy l o z) : wy l (o &&& (-5)) (z &&& (-5)) := wy_and h (by
  have e : ∀ x, x < 34 → (x < 17 ∨ 20 ≤ x ∧ x < 34) → (-5 : Int64).toBitVec.getLsbD x = wf (-5) x := by decide
  exact fun x hx => e x (by omega) hx) (fun x h1 h2 => absurd h1 (by omega))
set_option maxHeartbeats 200000 in
theorem b2_32 : (o &&& 4 = 0) ↔ o.toBitVec.getLsbD 2 = false := by
  constructor
  · intro h
    have := congrArg (fun y : Int32 => y.toBitVec.getLsbD 2) h
    simp only [Int32.toBitVec_and, BitVec.getLsbD_and] at this
    have e1 : (4 : Int32).toBitVec.getLsbD 2 = true := by decide
    have e0 : (0 : Int32).toBitVec.getLsbD 2 = false := by decide
    rw [e1, e0, Bool.and_true] at this; exact this
  · intro h
    apply Int32.toBitVec_inj.1
    apply BitVec.eq_of_getLsbD_eq
    intro x hx
    rw [Int32.toBitVec_and, BitVec.getLsbD_and]
    by_cases c : x = 2
    · rw [c, h]; decide
    · have e : ∀ y, y < 32 → y ≠ 2 → (4 : Int32).toBitVec.getLsbD y = false ∧ (0 : Int32).toBitVec.getLsbD y = false := by decide
      rw [(e x hx c).1, (e x hx c).2, Bool.and_false]
set_option maxHeartbeats 200000 in
theorem b2_64 : (z &&& 4 = 0) ↔ z.toBitVec.getLsbD 2 = false := by
  constructor
  · intro h
    have := congrArg (fun y : Int64 => y.toBitVec.getLsbD 2) h
    simp only [Int64.toBitVec_and, BitVec.getLsbD_and] at this
    have e1 : (4 : Int64).toBitVec.getLsbD 2 = true := by decide
    have e0 : (0 : Int64).toBitVec.getLsbD 2 = false := by decide
    rw [e1, e0, Bool.and_true] at this; exact this
  · intro h
    apply Int64.toBitVec_inj.1
    apply BitVec.eq_of_getLsbD_eq
    intro x hx
    rw [Int64.toBitVec_and, BitVec.getLsbD_and]
    by_cases c : x = 2
    · rw [c, h]; decide
    · have e : ∀ y, y < 64 → y ≠ 2 → (4 : Int64).toBitVec.getLsbD y = false ∧ (0 : Int64).toBitVec.getLsbD y = false := by decide
      rw [(e x hx c).1, (e x hx c).2, Bool.and_false]
set_option maxHeartbeats 200000 in
theorem wy_2 (h : wy l o z) : (o &&& 4 = 0) ↔ (z &&& 4 = 0) := by
  rw [b2_32, b2_64, h.1 2 (by omega)]; rfl
set_option maxHeartbeats 200000 in
theorem n5_4 (h : ¬ z &&& 4 = 0) : ((z &&& (-5)) ||| 0) ||| 4 = z := by
  rw [b2_64] at h
  apply Int64.toBitVec_inj.1
  apply BitVec.eq_of_getLsbD_eq
  intro x hx
  rw [Int64.toBitVec_or, BitVec.getLsbD_or, Int64.toBitVec_or, BitVec.getLsbD_or, Int64.toBitVec_and, BitVec.getLsbD_and]
  have e : ∀ y, y < 64 → (0 : Int64).toBitVec.getLsbD y = false ∧ (y ≠ 2 → (4 : Int64).toBitVec.getLsbD y = false ∧ (-5 : Int64).toBitVec.getLsbD y = true) := by decide
  rw [(e x hx).1, Bool.or_false]
  by_cases c : x = 2
  · rw [c]
    have : z.toBitVec.getLsbD 2 = true := by
      cases q : z.toBitVec.getLsbD 2 with
      | false => exact absurd q h
      | true => rfl
    rw [this]; decide
  · rw [((e x hx).2 c).1, ((e x hx).2 c).2, Bool.and_true, Bool.or_false]
end
section
variable {g : rd_G} {i n p i' n' q d k s l b e e' : Nat} {C : Nat → Int32} {r : Int32} {R : Nat → Nat → Int32} {K : rd_K} {A : rd_A} {v w : q_V} {T : co_T} {XL : Int32 → Int32 → Int32 → Prop}
variable {B : q_V → Option (Int32 × q_V)} {B' : q_V → Option (Int64 × q_V)} {f p' : Int32} {x1 x2 x3 x4 x5 x6 : Int32}
/-! mends at a fault -/
set_option maxHeartbeats 200000 in
theorem x_m213 (ok : rd_ok g) (h : xc g f p' l v) : cG g f p' l (fX8_mends_b213 B x1 x2 x3 x4 x5 v) := by
  unfold fX8_mends_b213
  exact cG_d (x_add ok h) (fun a v h => cG_i (fun _ => cG_s h) (fun _ => cG_i (fun _ => cG_s h) (fun _ => cG_s h)))
set_option maxHeartbeats 200000 in
theorem x_mL {N : Nat} (ok : rd_ok g) (h : xc g f p' l v) : cG g f p' l (fX8_mends_L28 B x1 x2 (N + 1) x3 x4 x5 x6 v) := by
  rw [fX8_mends_L28]
  refine cG_i (fun _ => x_m213 ok h) (fun _ => ?_)
  rw [if_neg (by rw [h.2.1]; decide)]
  exact x_m213 ok h
set_option maxHeartbeats 200000 in
theorem x_t76 (ok : rd_ok g) (h : xc g f p' l v) : cG g f p' l (fX8_trial_b76 B x1 x2 x3 v) := by
  unfold fX8_trial_b76
  exact cG_d (x_always h) (fun a v h => cG_d (x_size h) (fun a v h => cG_v (x_set ok h) (fun v h => cG_s h)))
set_option maxHeartbeats 200000 in
theorem y_256 {Bd d0 : Nat} {z : Int64} (hd : d0 < 640) (h : xr g f p' Bd w) : rG g f p' Bd (fX12_trial_b256 B' x1 (nI d0) z w) := by
  unfold fX12_trial_b256
  refine rG_d (y_always h) (fun a w h => ?_)
  rw [if_neg (in6 hd), q_lt_s]
  exact rG_s (xr_a h (by omega))
set_option maxHeartbeats 200000 in
theorem y_L91 {Bd d0 N : Nat} {z z7 : Int64} (hd : d0 < 640) (hB : Bd < 4000) (h : xr g f p' Bd w) : rG g f p' (Bd + 1) (fX12_trial_L91 B' x1 (N + 1) (nI d0) z x5 x6 z7 w) := by
  obtain ⟨w1, e1, h1⟩ := y_skip (x := 25) h
  rw [fX12_trial_L91, e1, q_bd_s, if_pos rfl]
  refine rG_d (y_emit hB h1) (fun a w h => ?_)
  unfold fX12_trial_b247 fX12_trial_b254
  simp only [q_lt_s]
  exact rG_i (fun _ => y_256 hd h) (fun _ => rG_i (fun _ => y_256 hd h) (fun _ => rG_i (fun _ => y_256 hd h) (fun _ => y_256 hd h)))
/-! how a turn ends -/
section
variable {Kc : Int32 → Int32 → Int32 → Int32 → q_V → Option (Int32 × q_V)} {Kr : Int32 → Int64 → Int32 → Int32 → Int64 → q_V → Option (Int64 × q_V)} {a3 a4 a5 any nt t6 y d0 : Int32} {wn3 w7 z : Int64} {c : Nat} {S : q_V}
set_option maxHeartbeats 200000 in
theorem m_Fc : (if a5 = 0 then fX8_mends_b180 B x1 x2 a3 a5 (nI c) any nt y a4 Kc S else fX8_mends_b180 B x1 x2 a3 a5 (nI c) any nt 0 a4 Kc S) = Kc (a3 ||| (if a5 = 0 then (if nt &&& 1 = 0 then 0 else 4) else 0)) (a4 ||| (if a5 = 0 then y else 0)) (a5 ||| any) (nI (c + 1)) S := by
  unfold fX8_mends_b180 fX8_mends_b198
  by_cases h : a5 = 0
  · simp only [if_pos h, q_lt_s, tr_of, q_bd_s, ni_add1]
  · simp only [if_neg h, q_lt_s, ni_add1]
set_option maxHeartbeats 200000 in
theorem m_Fr : (if a5 = 0 then fX12_trial_b188 B' x1 d0 wn3 a5 t6 any (w7 ||| z) Kr S else fX12_trial_b188 B' x1 d0 wn3 a5 t6 any w7 Kr S) = Kr d0 wn3 (if a5 = 0 then (if any = 0 then 0 else 1) else 1) t6 (if a5 = 0 then w7 ||| z else w7) S := by
  unfold fX12_trial_b188 fX12_trial_b200 fX12_trial_b205
  by_cases h : a5 = 0
  · simp only [if_pos h]
    by_cases h2 : any = 0
    · simp only [if_pos h2]
    · simp only [if_neg h2]
  · simp only [if_neg h]
set_option maxHeartbeats 200000 in
theorem m_or (h5 : a5 = 0 ∨ a5 = 1) (ha : any = 0 ∨ any = 1) : a5 ||| any = (if a5 = 0 then (if any = 0 then 0 else 1) else 1) ∧ (a5 ||| any = 0 ∨ a5 ||| any = 1) := by
  rcases h5 with h | h <;> rcases ha with h2 | h2 <;> (subst h; subst h2; decide)
set_option maxHeartbeats 200000 in
theorem m_t6 {r1 : Int32} (h6 : t6 = 0 ∨ t6 = 1) (h3 : a3 = if t6 = 0 then 0 else 4) (hr : nt &&& 1 = 0 ↔ r1 = 0) : ∃ t7 : Int32, (t7 = 0 ∨ t7 = 1) ∧ (∀ {α : Type} (X0 X1 : α), (if t6 = 0 then if a5 = 0 then if r1 = 0 then X0 else X1 else X0 else X1) = if t7 = 0 then X0 else X1) ∧ a3 ||| (if a5 = 0 then (if nt &&& 1 = 0 then 0 else 4) else 0) = (if t7 = 0 then 0 else 4) := by
  by_cases c6 : t6 = 0
  · rw [if_pos c6] at h3
    subst h3
    by_cases c5 : a5 = 0
    · by_cases c1 : r1 = 0
      · exact ⟨0, Or.inl rfl, fun X0 X1 => by rw [if_pos c6, if_pos c5, if_pos c1, if_pos rfl], by rw [if_pos c5, if_pos (hr.2 c1), if_pos rfl]; decide⟩
      · exact ⟨1, Or.inr rfl, fun X0 X1 => by rw [if_pos c6, if_pos c5, if_neg c1, if_neg (by decide)], by rw [if_pos c5, if_neg (fun z => c1 (hr.1 z)), if_neg (by decide)]; decide⟩
    · exact ⟨0, Or.inl rfl, fun X0 X1 => by rw [if_pos c6, if_neg c5, if_pos rfl], by rw [if_neg c5, if_pos rfl]; decide⟩
  · rw [if_neg c6] at h3
    subst h3
    refine ⟨1, Or.inr rfl, fun X0 X1 => by rw [if_neg c6, if_neg (by decide)], ?_⟩
    rw [if_neg (show ¬ (1 : Int32) = 0 by decide)]
    split
    · split <;> decide
    · decide
set_option maxHeartbeats 200000 in
theorem m_145 {t7 y9 y12 : Int32} (h7 : t7 = 0 ∨ t7 = 1) : (if t7 = 0 then fX12_trial_b144 B' x1 d0 wn3 a5 w7 y9 y12 Kr S else fX12_trial_b140 B' x1 d0 wn3 a5 w7 y9 y12 Kr S) = fX12_trial_b145 B' x1 d0 wn3 a5 w7 y9 y12 t7 Kr S := by
  unfold fX12_trial_b144 fX12_trial_b140
  rcases h7 with h | h
  · rw [if_pos h, h]
  · rw [if_neg (by rw [h]; decide), h]
end
end
