/-! THE SIGNS: which place a sign has in the row of signs. -/
def q_ixl : List Int32 → Int32 → Int32 → Int32
  | [], _, _ => -1
  | x :: xs, i, b => if x = b then i else q_ixl xs (i + 1) b
def q_sg : List Int32 := [40, 41, 123, 125, 44, 59, 58, 61, 60, 43, 45, 42, 47, 37]
def q_ix (c : Int32) : Int32 := if c < 0 then -1 else if 255 < c then -1 else q_ixl q_sg 0 c.toInt8.toInt32
def fJ0_indexOf_0f7a4 (_ : Nat) (c : Int32) (v : q_V) : Option (Int32 × q_V) := some (q_ix c, v)
theorem q_l9 {n : Nat} (h : n < 168) : n < 169 := Nat.lt_succ_of_lt h
theorem q_ixL {x1 x2 : Int32} {S : kp_S} {post : Int32 → kp_S → Prop} (b : Int32) : ∀ (m k : Nat), k + m = 14 → post (q_ixl (q_sg.drop k) (nI k) b) S → wJ1_indexOfChar_4cfef_L7 1 x1 x2 14 post (m + 1) b (nI k) S := by
  have hl : (kp_sl.getD 1 0) = 14 := rfl
  have e : ∀ i : Nat, i < 14 → (kp_sb.getD 1 []).getD i 0 = q_sg.getD i 0 := by decide
  have A : ∀ k : Nat, k < 14 → (nI k).toNatClampNeg = k ∧ ¬ nI k < 0 ∧ ¬ (14 : Int32) ≤ nI k ∧ nI k + 1 = nI (k + 1) := by decide
  have D : ∀ k : Nat, k < 14 → q_sg.drop k = q_sg.getD k 0 :: q_sg.drop (k + 1) := by decide
  intro m
  induction m with
  | zero =>
    intro k hk h
    obtain rfl : k = 14 := by omega
    unfold wJ1_indexOfChar_4cfef_L7
    exact ⟨fun _ => h, fun q => absurd (by decide) q⟩
  | succ m ih =>
    intro k hk h
    have hk2 : k < 14 := by omega
    obtain ⟨a1, a2, a3, a4⟩ := A k hk2
    rw [D k hk2] at h
    unfold q_ixl at h
    unfold wJ1_indexOfChar_4cfef_L7
    refine ⟨fun q => absurd q a3, fun _ => ⟨?_, ?_⟩⟩
    · unfold vp_in; rw [hl, a1]; exact fun q => q.elim a2 (fun q => absurd hk2 (Nat.not_lt.mpr q))
    · rw [a1, e k hk2]
      refine ⟨fun q => ?_, fun q => ?_⟩
      · rw [if_neg q, a4] at h
        intro y hy2; subst hy2; rw [a4]; exact ih (k + 1) (by omega) h
      · rw [if_pos q] at h; exact h
theorem b_J0_indexOf_0f7a4 {gr : Nat} {g : q_G} {S0 S : kp_S} {c y : Int32} {v : q_V} {post : Int32 → kp_S → Prop} (R : q_Gd gr g S0 S) (h : fJ0_indexOf_0f7a4 1 c (q_w g S) = some (y, v)) (kk : ∀ S, q_Gd gr g S0 S → v = q_w g S → post y S) : wJ0_indexOf_0f7a4 1 c S post := by
  have hp : post (q_ix c) S := q_fin h kk R
  unfold wJ0_indexOf_0f7a4 wJ0_indexOf_7cf53 wJ0_isLatin1_aae02
  refine ⟨fun q => absurd q (by decide), fun _ => ⟨fun q => absurd rfl q, fun _ => ?_⟩⟩
  unfold wJ0_isLatin1_aae02_b18
  refine ⟨Or.inr rfl, fun q => absurd q (by decide), fun _ => ?_⟩
  unfold q_ix at hp
  have k : ∀ (z : Int32), post z S → wJ0_indexOf_7cf53_b36 1 c 0 z S post := fun z h => by unfold wJ0_indexOf_7cf53_b36; exact h
  have key : wJ1_indexOf_4cfef 1 c 0 14 S (fun y10 T9 => wJ0_indexOf_7cf53_b36 1 c 0 y10 T9 post) := by
    unfold wJ1_indexOf_4cfef wJ1_canEncode_9a6ad
    have bad : (c < 0 ∨ 255 < c) → wJ1_canEncode_9a6ad_b15 c S (fun y2 T1 => ((¬ y2 = 0 →
  ∀ y3 : Int32, y3 = (if (0 : Int32) < (0 : Int32) then 0 else 0) →
  ∀ y4 : Int32, y4 = (if (nI (kp_sl.getD 1 0)) < 14 then (nI (kp_sl.getD 1 0)) else 14) →
  ((y3 < y4 →
  wJ1_indexOfChar_4cfef 1 c y3 y4 T1 (fun y6 T5 =>
  wJ0_indexOf_7cf53_b36 1 c 0 y6 T5 post)) ∧ (¬ y3 < y4 →
  wJ0_indexOf_7cf53_b36 1 c 0 (-1) T1 post))) ∧ (y2 = 0 →
  wJ0_indexOf_7cf53_b36 1 c 0 (-1) T1 post))) := by
      intro q
      unfold wJ1_canEncode_9a6ad_b15 wJ1_canEncode_9a6ad_b16
      refine ⟨Or.inl rfl, fun q => absurd rfl q, fun _ => k _ ?_⟩
      by_cases h0 : c < 0
      · rw [if_pos h0] at hp; exact hp
      · rw [if_neg h0, if_pos (q.resolve_left h0)] at hp; exact hp
    refine ⟨fun q => bad (Or.inl q), fun h0 => ⟨fun q => bad (Or.inr q), fun h1 => ?_⟩⟩
    rw [if_neg h0, if_neg h1] at hp
    unfold wJ1_canEncode_9a6ad_b16
    refine ⟨Or.inr rfl, fun _ => ?_, fun q => absurd q (by decide)⟩
    intro y3 e3 y4 e4
    have e3' : y3 = 0 := e3.trans (by decide)
    have e4' : y4 = 14 := e4.trans (by decide)
    subst e3'; subst e4'
    refine ⟨fun _ => ?_, fun q => absurd (by decide) q⟩
    unfold wJ1_indexOfChar_4cfef
    intro y1 e1; subst e1
    exact ⟨15, q_ixL _ 14 0 rfl (k _ hp)⟩
  unfold wJ0_length_8abf5 wJ0_coder_7d493 wJ0_coder_7d493_b14
  refine ⟨fun q => absurd q (by decide), fun _ => ⟨rfl, ?_⟩⟩
  have e : (nI (kp_sl.getD 1 0)) >>> ((0 : Int32) &&& 31) = 14 := by decide
  show wJ1_indexOf_4cfef 1 c 0 ((nI (kp_sl.getD 1 0)) >>> ((0 : Int32) &&& 31)) S _
  rw [e]; exact key
