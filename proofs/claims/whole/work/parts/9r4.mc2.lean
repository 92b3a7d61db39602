/-- byte x of text s -/
def kb (s x : Nat) : Nat := ((kp_sb.getD s []).getD x 0).toNatClampNeg
set_option maxHeartbeats 200000 in
theorem kb_ok : ∀ s, s < 42 → kp_sl.getD s 0 ≤ 210 ∧ ∀ x, x < kp_sl.getD s 0 → (kp_sb.getD s []).getD x 0 = nI (kb s x) ∧ kb s x < 128 := by decide +kernel
set_option maxHeartbeats 200000 in
theorem kb_v : ∀ b, b < 128 → ((nI b &&& 255 : Int32).toUInt32 % 65536).toInt32 = nI b := by decide +kernel
set_option maxHeartbeats 200000 in
theorem kb_n : ∀ b, b < 128 → narrow .char (.int (nI b)) = .int (nI b) := by decide +kernel
set_option maxHeartbeats 200000 in
theorem kb_32 : ∀ b, b < 128 → (nI b = 32 ↔ b = 32) := by decide +kernel
def pk (w : Int64) (b : Nat) : Int64 := ((w : Int64) <<< ((8 : Int32).toInt64 &&& 63)) ||| ((nI b : Int32).toInt64)
def pkl (s : Nat) : Nat → Nat → Int64 → Int64
  | 0, _, w => w
  | f + 1, x, w => pkl s f (x + 1) (pk w (kb s x))
def kwf : Nat → Nat → Int64 → Nat → (Nat → Int64) → (Nat → Int64)
  | 0, _, _, _, r => r
  | f + 1, x, w, c, r => if kb 0 x = 32 then (if 40 ≤ c then kwf f (x + 1) w c r else kwf f (x + 1) 0 (c + 1) (vp_updL r c w)) else kwf f (x + 1) (pk w (kb 0 x)) c r
section
variable {p : List (Nat × Nat)} {n i j s x a0 a1 : Nat} {M S : kp_S} {post : kp_S → Prop}
set_option maxHeartbeats 200000 in
theorem j_len {q : Int32 → kp_S → Prop} (h : q (nI (kp_sl.getD s 0)) S) : wJ0_length_8abf5 s S q := by
  unfold wJ0_length_8abf5 wJ0_coder_7d493 wJ0_coder_7d493_b14
  refine ⟨fun z => absurd z (by decide), fun _ => ⟨by decide, ?_⟩⟩
  show q (nI (kp_sl.getD s 0) >>> ((0 : Int32) &&& 31)) S
  rw [show ((0 : Int32) &&& 31) = 0 from by decide, Int32.shiftRight_zero]; exact h
set_option maxHeartbeats 200000 in
theorem j_chr {q : Int32 → kp_S → Prop} (hs : s < 42) (hx : x < kp_sl.getD s 0) (h : q (nI (kb s x)) S) : wJ0_charAt_5068e s (nI x) S q := by
  obtain ⟨l1, l2⟩ := kb_ok s hs
  obtain ⟨b1, b2⟩ := l2 x hx
  unfold wJ0_charAt_5068e wJ0_isLatin1_aae02 wJ0_isLatin1_aae02_b18
  refine ⟨fun z => absurd z (by decide), fun _ => ⟨fun z => absurd rfl z, fun _ => ⟨Or.inr rfl, fun z => absurd z (by decide), fun _ => ?_⟩⟩⟩
  unfold wJ1_charAt_3b067 wJ0_checkIndex_df160
  rw [ni_clamp (by omega), b1, kb_v _ b2]
  refine ⟨by rw [ni_neg (by omega)]; exact not_false, ?_, ni_nin hx (by omega), kb_n _ b2, kb_n _ b2, h⟩
  rw [ni_lt (by omega) (by omega)]; exact hx
set_option maxHeartbeats 200000 in
theorem pk_w {q : Int64 → kp_S → Prop} (hs : s < 42) : ∀ (f x : Nat) (w : Int64), x + f = kp_sl.getD s 0 → q (pkl s f x w) S → wX12_packed_L4 s q (f + 1) w (nI x) S := by
  obtain ⟨l1, _⟩ := kb_ok s hs
  intro f
  induction f with
  | zero =>
    intro x w e h
    rw [wX12_packed_L4]
    refine j_len ⟨fun _ => h, fun z => absurd ?_ z⟩
    rw [show kp_sl.getD s 0 = x by omega]; exact Int32.le_refl _
  | succ f ih =>
    intro x w e h
    rw [wX12_packed_L4]
    refine j_len ⟨fun z => absurd z (ni_nle (by omega) (by omega)), fun _ => ?_⟩
    refine j_chr hs (by omega) (fun z ez y ey => ?_)
    subst ez; subst ey
    rw [ni_add1]
    exact ih (x + 1) _ (by omega) h
set_option maxHeartbeats 200000 in
theorem w_pk {q : Int64 → kp_S → Prop} (hs : s < 42) (h : q (pkl s (kp_sl.getD s 0) 0 0) S) : wX12_packed s S q := ⟨_, pk_w hs (kp_sl.getD s 0) 0 0 (by omega) h⟩
set_option maxHeartbeats 200000 in
theorem sB_sB {r r' : Nat → Int64} : kp_sB (kp_sB M j r) j r' = kp_sB M j r' := by
  have e : va_up (va_up (kp_B M) j r) j r' = va_up (kp_B M) j r' := by
    funext y; unfold va_up; split <;> rfl
  show (_, _, _, _, _, _, _, va_up (va_up (kp_B M) j r) j r', _) = _
  rw [e]; rfl
set_option maxHeartbeats 200000 in
theorem sB_id : kp_sB M j (kp_B M j) = M := by
  have e : va_up (kp_B M) j (kp_B M j) = kp_B M := by
    funext y; unfold va_up; split
    · rename_i h; rw [h]
    · rfl
  show (_, _, _, _, _, _, _, va_up (kp_B M) j (kp_B M j), _) = _
  rw [e]; rfl
set_option maxHeartbeats 200000 in
/-- the class's words -/
theorem w_kw (h0 : (i, a0) ∈ p) (k1 : kp_K M i < 13) (k2 : kp_R M 1801 i = some j) (k3 : 13 ≤ kp_K M j) (k4 : kp_N M j = 40) : ∀ (f x : Nat) (w : Int64) (c : Nat) (r : Nat → Int64) (S : kp_S), x + f = 210 → c ≤ x → iq p n (kp_sB M j r) S → (∀ S', iq p n (kp_sB M j (kwf f x w c r)) S' → post S') → wX9_init_L25 a0 a1 post (f + 1) w (nI c) (nI x) S := by
  have l0 : kp_sl.getD 0 0 = 210 := rfl
  intro f
  induction f with
  | zero =>
    intro x w c r S e hc I kk
    rw [wX9_init_L25]
    refine j_len ⟨fun _ => kk S I, fun z => absurd ?_ z⟩
    rw [l0, show 210 = x by omega]; exact Int32.le_refl _
  | succ f ih =>
    intro x w c r S e hc I kk
    rw [wX9_init_L25]
    refine j_len ⟨fun z => absurd z (ni_nle (by omega) (by omega)), fun _ => ?_⟩
    have hx : x < kp_sl.getD 0 0 := by omega
    have b2 := ((kb_ok 0 (by omega)).2 x hx).2
    unfold wX9_init_b83
    rw [kwf] at kk
    refine j_chr (by omega) hx ⟨fun z => ⟨fun z2 y ey => ?_, fun z2 => ?_⟩, fun z v ev y ey => ?_⟩
    · rw [if_pos ((kb_32 _ b2).mp z), if_pos ((ni_le (a := 40) (by omega) (by omega)).mp z2)] at kk
      subst ey; rw [ni_add1]
      exact ih (x + 1) _ c r S (by omega) (by omega) I kk
    · have c40 : ¬ 40 ≤ c := fun w => z2 ((ni_le (a := 40) (by omega) (by omega)).mpr w)
      rw [if_pos ((kb_32 _ b2).mp z), if_neg c40] at kk
      obtain ⟨r1, I1⟩ := iq_rd (k := 1801) I h0 k1 k2
      have ll := iq_len I1 List.mem_cons_self k3
      refine ⟨_, r1, ?_, fun T eT y ey u eu => ?_⟩
      · rw [ll.1, show kp_N (kp_sB M j r) j = 40 from k4]; exact ni_nin (by omega) (by omega)
      · rw [ni_clamp (by omega), ll.2.2.1] at eT
        have rB : kp_B (kp_sB M j r) j = r := by rw [rd_B_sB, if_pos rfl]
        rw [rB] at eT
        have I2 := iq_B (r := vp_updL r c w) I1 List.mem_cons_self
        rw [sB_sB, ← eT] at I2
        subst ey; subst eu
        rw [ni_add1, ni_add1]
        exact ih (x + 1) 0 (c + 1) _ T (by omega) (by omega) (iq_sub I2 (fun _ h => List.mem_cons_of_mem _ h)) kk
    · rw [if_neg (fun w => z ((kb_32 _ b2).mpr w))] at kk
      subst ev; subst ey; rw [ni_add1]
      exact ih (x + 1) _ c r S (by omega) (by omega) I kk
end
