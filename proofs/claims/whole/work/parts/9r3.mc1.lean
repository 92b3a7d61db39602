/-- the i-th thing that was made -/
def iq_a (S : kp_S) (i : Nat) : Nat := ((kp_L S)[i]?).getD 0
/-- the pool S is the pool M with other addresses: the i-th thing made stands for i; p names some of them -/
def iq (p : List (Nat × Nat)) (n : Nat) (M S : kp_S) : Prop :=
  ((kp_L S).length = n ∧ ∀ i j, i < n → j < n → iq_a S i = iq_a S j → i = j) ∧
  (∀ i, i < n → kp_K M i < 13 → (∀ k, kp_I S k (iq_a S i) = kp_I M k i) ∧ ∀ k, kp_R S k (iq_a S i) = (kp_R M k i).map (iq_a S)) ∧
  (∀ i, i < n → 13 ≤ kp_K M i → kp_N S (iq_a S i) = kp_N M i ∧ kp_A S (iq_a S i) = kp_A M i ∧ kp_B S (iq_a S i) = kp_B M i ∧ ∀ j, kp_C S (iq_a S i) j = (kp_C M i j).map (iq_a S)) ∧
  ((∀ i k j, kp_R M k i = some j → j < n) ∧ ∀ i k j, kp_C M i k = some j → j < n) ∧
  (∀ q, q ∈ p → q.1 < n ∧ iq_a S q.1 = q.2) ∧
  ∀ i, i ≠ 23 → kp_A M i = fun _ => 0
section
variable {p p' : List (Nat × Nat)} {n c m i j k t a b x : Nat} {M S T : kp_S}
set_option maxHeartbeats 200000 in
theorem iq_mem (h : i < (kp_L S).length) : iq_a S i ∈ kp_L S := by
  unfold iq_a
  rw [List.getElem?_eq_getElem h]
  exact List.getElem_mem h
set_option maxHeartbeats 200000 in
theorem iq_o (h : kp_L T = kp_L S ++ [b]) (hi : i < (kp_L S).length) : iq_a T i = iq_a S i := by
  unfold iq_a
  rw [h, List.getElem?_append_left hi]
set_option maxHeartbeats 200000 in
theorem iq_n (h : kp_L T = kp_L S ++ [b]) : iq_a T (kp_L S).length = b := by
  unfold iq_a
  rw [h, List.getElem?_concat_length]; rfl
set_option maxHeartbeats 200000 in
theorem iq_ij (h : kp_L T = kp_L S ++ [b]) (hn : (kp_L S).length = n) (hb : b ∉ kp_L S) (hj : ∀ i j, i < n → j < n → iq_a S i = iq_a S j → i = j) : (kp_L T).length = n + 1 ∧ ∀ i j, i < n + 1 → j < n + 1 → iq_a T i = iq_a T j → i = j := by
  subst hn
  refine ⟨by rw [h]; simp, fun i j h1 h2 e => ?_⟩
  rcases Nat.lt_or_ge i (kp_L S).length with c1 | c1 <;> rcases Nat.lt_or_ge j (kp_L S).length with c2 | c2
  · rw [iq_o h c1, iq_o h c2] at e; exact hj i j c1 c2 e
  · rw [show j = (kp_L S).length by omega, iq_n h, iq_o h c1] at e
    exact absurd (e ▸ iq_mem c1) hb
  · rw [show i = (kp_L S).length by omega, iq_n h, iq_o h c2] at e
    exact absurd (e ▸ iq_mem c2) hb
  · omega
set_option maxHeartbeats 200000 in
theorem iq_mp {o : Option Nat} (h : kp_L T = kp_L S ++ [b]) (hn : (kp_L S).length = n) (ho : ∀ j, o = some j → j < n) : o.map (iq_a T) = o.map (iq_a S) := by
  cases o with
  | none => rfl
  | some j => exact congrArg some (iq_o h (by rw [hn]; exact ho j rfl))
set_option maxHeartbeats 200000 in
theorem iq_N (I : iq p n M S) (hb : b ∉ kp_L S) (hc : c < 13) : iq ((n, b) :: p) (n + 1) (kp_new M n c) (kp_new S b c) := by
  obtain ⟨⟨h1, h2⟩, h3, h4, ⟨h5, h6⟩, h7, h8⟩ := I
  have hL : kp_L (kp_new S b c) = kp_L S ++ [b] := rfl
  have a1 : ∀ i, i < n → iq_a (kp_new S b c) i = iq_a S i := fun i hi => iq_o hL (by omega)
  have a2 : iq_a (kp_new S b c) n = b := by rw [← h1]; exact iq_n hL
  have a3 : ∀ i, i < n → iq_a S i ≠ b := fun i hi e => hb (e ▸ iq_mem (by omega))
  refine ⟨iq_ij hL h1 hb h2, fun i hi hk => ?_, fun i hi hk => ?_, ⟨fun i k j e => ?_, fun i k j e => ?_⟩, fun q hq => ?_, fun i hi => h8 i hi⟩
  · rcases Nat.lt_or_ge i n with c1 | c1
    · rw [rd_K_new, if_neg (by omega)] at hk
      obtain ⟨e1, e2⟩ := h3 i c1 hk
      refine ⟨fun k => ?_, fun k => ?_⟩
      · rw [a1 i c1, rd_I_new, if_neg (a3 i c1), rd_I_new, if_neg (by omega)]; exact e1 k
      · rw [a1 i c1, rd_R_new, if_neg (a3 i c1), rd_R_new, if_neg (by omega), iq_mp hL h1 (fun j e => h5 i k j e)]; exact e2 k
    · have : i = n := by omega
      subst this
      refine ⟨fun k => ?_, fun k => ?_⟩
      · rw [a2, rd_I_new, if_pos rfl, rd_I_new, if_pos rfl]
      · rw [a2, rd_R_new, if_pos rfl, rd_R_new, if_pos rfl]; rfl
  · rcases Nat.lt_or_ge i n with c1 | c1
    · rw [rd_K_new, if_neg (by omega)] at hk
      obtain ⟨e1, e2, e3, e4⟩ := h4 i c1 hk
      rw [a1 i c1]
      exact ⟨e1, e2, e3, fun j => by rw [rd_C_new, rd_C_new, iq_mp hL h1 (fun m e => h6 i j m e)]; exact e4 j⟩
    · rw [show i = n by omega, rd_K_new, if_pos rfl] at hk; omega
  · rw [rd_R_new] at e
    split at e
    · cases e
    · have := h5 i k j e; omega
  · have := h6 i k j e; omega
  · rcases List.mem_cons.mp hq with e | e
    · subst e; exact ⟨by show n < n + 1; omega, a2⟩
    · obtain ⟨e1, e2⟩ := h7 q e
      exact ⟨by omega, (a1 _ e1).trans e2⟩
set_option maxHeartbeats 200000 in
theorem iq_A (I : iq p n M S) (hb : b ∉ kp_L S) (hc : 13 ≤ c) : iq ((n, b) :: p) (n + 1) (kp_newA M n c m) (kp_newA S b c m) := by
  obtain ⟨⟨h1, h2⟩, h3, h4, ⟨h5, h6⟩, h7, h8⟩ := I
  have hL : kp_L (kp_newA S b c m) = kp_L S ++ [b] := rfl
  have a1 : ∀ i, i < n → iq_a (kp_newA S b c m) i = iq_a S i := fun i hi => iq_o hL (by omega)
  have a2 : iq_a (kp_newA S b c m) n = b := by rw [← h1]; exact iq_n hL
  have a3 : ∀ i, i < n → iq_a S i ≠ b := fun i hi e => hb (e ▸ iq_mem (by omega))
  refine ⟨iq_ij hL h1 hb h2, fun i hi hk => ?_, fun i hi hk => ?_, ⟨fun i k j e => ?_, fun i k j e => ?_⟩, fun q hq => ?_, fun i hi => ?_⟩
  · rcases Nat.lt_or_ge i n with c1 | c1
    · rw [rd_K_newA, if_neg (by omega)] at hk
      obtain ⟨e1, e2⟩ := h3 i c1 hk
      rw [a1 i c1]
      exact ⟨e1, fun k => by rw [rd_R_newA, rd_R_newA, iq_mp hL h1 (fun j e => h5 i k j e)]; exact e2 k⟩
    · rw [show i = n by omega, rd_K_newA, if_pos rfl] at hk; omega
  · rcases Nat.lt_or_ge i n with c1 | c1
    · rw [rd_K_newA, if_neg (by omega)] at hk
      obtain ⟨e1, e2, e3, e4⟩ := h4 i c1 hk
      rw [a1 i c1, rd_N_newA, if_neg (a3 i c1), rd_N_newA, if_neg (by omega), rd_A_newA, if_neg (a3 i c1), rd_A_newA, if_neg (by omega), rd_B_newA, if_neg (a3 i c1), rd_B_newA, if_neg (by omega)]
      exact ⟨e1, e2, e3, fun j => by rw [rd_C_newA, if_neg (a3 i c1), rd_C_newA, if_neg (by omega), iq_mp hL h1 (fun m e => h6 i j m e)]; exact e4 j⟩
    · have : i = n := by omega
      subst this
      rw [a2, rd_N_newA, if_pos rfl, rd_N_newA, if_pos rfl, rd_A_newA, if_pos rfl, rd_A_newA, if_pos rfl, rd_B_newA, if_pos rfl, rd_B_newA, if_pos rfl]
      exact ⟨rfl, rfl, rfl, fun j => by rw [rd_C_newA, if_pos rfl, rd_C_newA, if_pos rfl]; rfl⟩
  · have := h5 i k j e; omega
  · rw [rd_C_newA] at e
    split at e
    · cases e
    · have := h6 i k j e; omega
  · rcases List.mem_cons.mp hq with e | e
    · subst e; exact ⟨by show n < n + 1; omega, a2⟩
    · obtain ⟨e1, e2⟩ := h7 q e
      exact ⟨by omega, (a1 _ e1).trans e2⟩
  · rw [rd_A_newA]
    split
    · rfl
    · exact h8 i hi
set_option maxHeartbeats 200000 in
theorem iq_sub (I : iq p n M S) (h : ∀ q, q ∈ p' → q ∈ p) : iq p' n M S := ⟨I.1, I.2.1, I.2.2.1, I.2.2.2.1, fun q hq => I.2.2.2.2.1 q (h q hq), I.2.2.2.2.2⟩
set_option maxHeartbeats 200000 in
theorem iq_eq (I : iq p n M S) (h : (i, a) ∈ p) (hj : j < n) : iq_a S j = a ↔ j = i := by
  obtain ⟨e1, e2⟩ := I.2.2.2.2.1 _ h
  refine ⟨fun e => I.1.2 j i hj e1 (e.trans e2.symm), fun e => by rw [e]; exact e2⟩
set_option maxHeartbeats 200000 in
theorem iq_R (I : iq p n M S) (h : (i, a) ∈ p) (h' : (j, b) ∈ p) : iq p n (kp_sR M k i j) (kp_sR S k a b) := by
  have q1 := fun z hz => iq_eq I h (j := z) hz
  obtain ⟨_, q2⟩ := I.2.2.2.2.1 _ h'
  obtain ⟨h1, h3, h4, ⟨h5, h6⟩, h7, h8⟩ := I
  refine ⟨h1, fun z hz hk => ⟨(h3 z hz hk).1, fun k' => ?_⟩, h4, ⟨fun z k' j' e => ?_, h6⟩, h7, h8⟩
  · show kp_R (kp_sR S k a b) k' (iq_a S z) = (kp_R (kp_sR M k i j) k' z).map (iq_a S)
    rw [rd_R_sR, rd_R_sR]
    by_cases c1 : k' = k ∧ z = i
    · rw [if_pos ⟨c1.1, (q1 z hz).mpr c1.2⟩, if_pos c1]
      exact congrArg some q2.symm
    · rw [if_neg (fun w => c1 ⟨w.1, (q1 z hz).mp w.2⟩), if_neg c1]
      exact (h3 z hz hk).2 k'
  · rw [rd_R_sR] at e
    split at e
    · cases e; exact (h7 _ h').1
    · exact h5 z k' j' e
set_option maxHeartbeats 200000 in
theorem iq_I {v : Int32} (I : iq p n M S) (h : (i, a) ∈ p) : iq p n (kp_sI M k i v) (kp_sI S k a v) := by
  have q1 := fun z hz => iq_eq I h (j := z) hz
  obtain ⟨h1, h3, h4, h5, h7, h8⟩ := I
  refine ⟨h1, fun z hz hk => ⟨fun k' => ?_, (h3 z hz hk).2⟩, h4, h5, h7, h8⟩
  show kp_I (kp_sI S k a v) k' (iq_a S z) = kp_I (kp_sI M k i v) k' z
  rw [rd_I_sI, rd_I_sI]
  by_cases c1 : k' = k ∧ z = i
  · rw [if_pos ⟨c1.1, (q1 z hz).mpr c1.2⟩, if_pos c1]
  · rw [if_neg (fun w => c1 ⟨w.1, (q1 z hz).mp w.2⟩), if_neg c1]
    exact (h3 z hz hk).1 k'
set_option maxHeartbeats 200000 in
theorem iq_B {r : Nat → Int64} (I : iq p n M S) (h : (i, a) ∈ p) : iq p n (kp_sB M i r) (kp_sB S a r) := by
  have q1 := fun z hz => iq_eq I h (j := z) hz
  obtain ⟨h1, h3, h4, h5, h7, h8⟩ := I
  refine ⟨h1, h3, fun z hz hk => ?_, h5, h7, h8⟩
  obtain ⟨e1, e2, e3, e4⟩ := h4 z hz hk
  refine ⟨e1, e2, ?_, e4⟩
  show kp_B (kp_sB S a r) (iq_a S z) = kp_B (kp_sB M i r) z
  rw [rd_B_sB, rd_B_sB]
  by_cases c1 : z = i
  · rw [if_pos ((q1 z hz).mpr c1), if_pos c1]
  · rw [if_neg (fun w => c1 ((q1 z hz).mp w)), if_neg c1]; exact e3
set_option maxHeartbeats 200000 in
theorem iq_sA {r : Nat → Int32} (I : iq p n M S) (h : (23, a) ∈ p) : iq p n (kp_sA M 23 r) (kp_sA S a r) := by
  have q1 := fun z hz => iq_eq I h (j := z) hz
  obtain ⟨h1, h3, h4, h5, h7, h8⟩ := I
  refine ⟨h1, h3, fun z hz hk => ?_, h5, h7, fun z hz => ?_⟩
  · obtain ⟨e1, e2, e3, e4⟩ := h4 z hz hk
    refine ⟨e1, ?_, e3, e4⟩
    show kp_A (kp_sA S a r) (iq_a S z) = kp_A (kp_sA M 23 r) z
    rw [rd_A_sA, rd_A_sA]
    by_cases c1 : z = 23
    · rw [if_pos ((q1 z hz).mpr c1), if_pos c1]
    · rw [if_neg (fun w => c1 ((q1 z hz).mp w)), if_neg c1]; exact e2
  · rw [rd_A_sA, if_neg hz]; exact h8 z hz
set_option maxHeartbeats 200000 in
theorem iq_len (I : iq p n M S) (h : (i, a) ∈ p) (hk : 13 ≤ kp_K M i) : kp_N S a = kp_N M i ∧ kp_A S a = kp_A M i ∧ kp_B S a = kp_B M i ∧ ∀ j, kp_C S a j = (kp_C M i j).map (iq_a S) := by
  obtain ⟨e1, e2⟩ := I.2.2.2.2.1 _ h
  have := I.2.2.1 i e1 hk
  rw [show iq_a S i = a from e2] at this; exact this
set_option maxHeartbeats 200000 in
theorem iq_C (I : iq p n M S) (h : (i, a) ∈ p) (h' : (j, b) ∈ p) (hk : 13 ≤ kp_K M i) : iq p n (kp_sC M i (va_up (kp_C M i) t (some j))) (kp_sC S a (va_up (kp_C S a) t (some b))) := by
  have q1 := fun z hz => iq_eq I h (j := z) hz
  obtain ⟨_, q2⟩ := I.2.2.2.2.1 _ h'
  have q3 := iq_len I h hk
  obtain ⟨h1, h3, h4, ⟨h5, h6⟩, h7, h8⟩ := I
  refine ⟨h1, h3, fun z hz hk' => ?_, ⟨h5, fun z k' j' e => ?_⟩, h7, h8⟩
  · obtain ⟨e1, e2, e3, e4⟩ := h4 z hz hk'
    refine ⟨e1, e2, e3, fun y => ?_⟩
    show kp_C (kp_sC S a (va_up (kp_C S a) t (some b))) (iq_a S z) y = (kp_C (kp_sC M i (va_up (kp_C M i) t (some j))) z y).map (iq_a S)
    rw [rd_C_sC, rd_C_sC]
    by_cases c1 : z = i
    · rw [if_pos ((q1 z hz).mpr c1), if_pos c1]
      unfold va_up
      by_cases c2 : y = t
      · rw [if_pos c2, if_pos c2]; exact congrArg some q2.symm
      · rw [if_neg c2, if_neg c2]; exact q3.2.2.2 y
    · rw [if_neg (fun w => c1 ((q1 z hz).mp w)), if_neg c1]; exact e4 y
  · rw [rd_C_sC] at e
    split at e
    · unfold va_up at e
      split at e
      · cases e; exact (h7 _ h').1
      · exact h6 i k' j' e
    · exact h6 z k' j' e
set_option maxHeartbeats 200000 in
/-- a pointer read -/
theorem iq_rd (I : iq p n M S) (h : (i, a) ∈ p) (hk : kp_K M i < 13) (hR : kp_R M k i = some j) : kp_R S k a = some (iq_a S j) ∧ iq ((j, iq_a S j) :: p) n M S := by
  obtain ⟨e1, e2⟩ := I.2.2.2.2.1 _ h
  have := (I.2.1 i e1 hk).2 k
  rw [show iq_a S i = a from e2, hR] at this
  refine ⟨this, I.1, I.2.1, I.2.2.1, I.2.2.2.1, fun q hq => ?_, I.2.2.2.2.2⟩
  rcases List.mem_cons.mp hq with e | e
  · subst e; exact ⟨I.2.2.2.1.1 i k j hR, rfl⟩
  · exact I.2.2.2.2.1 q e
set_option maxHeartbeats 200000 in
/-- an array made and set into a field -/
theorem iq_AR (I : iq p n M S) (h : (i, a) ∈ p) (hb : b ∉ kp_L S) (hc : 13 ≤ c) : iq p (n + 1) (kp_sR (kp_newA M n c m) k i n) (kp_sR (kp_newA S b c m) k a b) :=
  iq_sub (iq_R (iq_A I hb hc) (List.mem_cons_of_mem _ h) List.mem_cons_self) (fun _ h => List.mem_cons_of_mem _ h)
end
