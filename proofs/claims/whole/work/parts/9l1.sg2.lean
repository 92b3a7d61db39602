/-- a chain of words that wait for one goal -/
def chn (C : Nat → Int32) : List Nat → Int32 → Prop
  | [], x => x = 0
  | a :: t, x => x = nI a ∧ 0 < a ∧ (∀ b ∈ t, b < a) ∧ chn C t (C a)
def ups (y : Int32) (C : Nat → Int32) : List Nat → Nat → Int32
  | [] => C
  | a :: t => ups y (upd C a y) t
section
variable {g : rd_G} {i n p i' n' q d k s l b e e' : Nat} {C : Nat → Int32} {r : Int32} {R : Nat → Nat → Int32} {K : rd_K} {A : rd_A} {v w : q_V}
set_option maxHeartbeats 200000 in
theorem chn_c {C C' : Nat → Int32} : ∀ t x, (∀ a ∈ t, C a = C' a) → chn C t x → chn C' t x := by
  intro t
  induction t with
  | nil => intro x _ h; exact h
  | cons a t ih =>
    intro x hc h
    refine ⟨h.1, h.2.1, h.2.2.1, ?_⟩
    rw [← hc a (List.mem_cons_self ..)]
    exact ih _ (fun b hb => hc b (List.mem_cons_of_mem _ hb)) h.2.2.2
set_option maxHeartbeats 200000 in
theorem ups_x {y : Int32} {x : Nat} : ∀ (t : List Nat) (C : Nat → Int32), x ∉ t → ups y C t x = C x := by
  intro t
  induction t with
  | nil => intro C _; rfl
  | cons a t ih =>
    intro C h
    rw [ups, ih _ (fun z => h (List.mem_cons_of_mem _ z)), upd_ne (fun z => h (by rw [z]; exact List.mem_cons_self ..))]
set_option maxHeartbeats 200000 in
theorem ups_in {y : Int32} {x : Nat} : ∀ (t : List Nat) (C : Nat → Int32), x ∈ t → ups y C t x = y := by
  intro t
  induction t with
  | nil => intro C h; exact absurd h (by simp)
  | cons a t ih =>
    intro C h
    rw [ups]
    by_cases c : x ∈ t
    · exact ih _ c
    · rw [ups_x t _ c]
      rcases List.mem_cons.1 h with z | z
      · rw [z, upd_at]
      · exact absurd z c
set_option maxHeartbeats 200000 in
theorem c_wr {a : Nat} {y : Int32} (h : St g i n p C i' n' q d r R K k s l b A e e' v w) : St g i n p (upd C a y) i' n' q d r R K k s l b A e e' (q_sa v 0 (upd (q_a v 0) a y)) w := by
  obtain ⟨f, F, t, B, Y, N, M⟩ := h
  rw [B.2]
  refine ⟨rdf_a f (by omega), F, t, ⟨B.1, by rw [q_a_sa, if_pos rfl]⟩, Y, ?_, M⟩
  unfold sN at N ⊢
  rw [q_i_sa, q_b_sa, q_a_sa, if_neg (by omega), q_a_sa, if_neg (by omega)]; exact N
set_option maxHeartbeats 200000 in
/-- the class's patching of a chain -/
theorem c_chain {x1 y : Int32} (ok : rd_ok g) : ∀ ch x m N C v, St g i n p C i' n' q d r R K k s l b A e e' v w → chn C ch x → (∀ a ∈ ch, a < 2 * gL g + 16) → m + ch.length < 2 * gL g + 16 → ch.length < N → ∃ v', fX0_setChain_L5 x1 y N x (nI m) v = some v' ∧ St g i n p (ups y C ch) i' n' q d r R K k s l b A e e' v' w := by
  have hL := ok.1
  intro ch
  induction ch with
  | nil =>
    intro x m N C v h hx _ hm hN
    obtain ⟨N, rfl⟩ : ∃ N', N = N' + 1 := ⟨N - 1, by simp at hN; omega⟩
    have hx0 : x = 0 := hx
    have hn := rd_n0 ok h.1
    refine ⟨v, ?_, h⟩
    rw [fX0_setChain_L5, hn, if_neg (ni_nle (by simp at hm; omega) (by omega)), hx0, if_pos (by decide)]
    rfl
  | cons a t ih =>
    intro x m N C v h hx ha hm hN
    rw [List.length_cons] at hm hN
    obtain ⟨N, rfl⟩ : ∃ N', N = N' + 1 := ⟨N - 1, by omega⟩
    obtain ⟨h1, h2, h3, h4⟩ := hx
    have hn := rd_n0 ok h.1
    have haa := ha a (List.mem_cons_self ..)
    have hB := h.2.2.2.1.2
    have s1 := c_wr (a := a) (y := y) h
    have hin : ¬ (nI a < 0 ∨ 2 * gL g + 16 ≤ (nI a).toNatClampNeg) := ni_nin haa (by omega)
    have hin2 : ¬ (nI a < 0 ∨ 2 * gL g + 16 ≤ a) := by have := hin; rw [ni_clamp (by omega)] at this; exact this
    rw [fX0_setChain_L5, hn, if_neg (ni_nle (by omega) (by omega)), h1, if_neg (show ¬ nI a ≤ 0 from ni_nle (b := 0) h2 (by omega)), if_neg (ni_nle haa (by omega)), if_neg hin, ni_clamp (by omega), q_lt_s, if_neg hin2, q_lt_s, q_lt_s, ni_add1]
    have := ih (C a) (m + 1) N (upd C a y) _ s1 (chn_c t _ (fun b hb => by rw [upd_ne (by have := h3 b hb; omega)]) h4) (fun b hb => ha b (List.mem_cons_of_mem _ hb)) (by omega) (by omega)
    rw [hB] at this ⊢
    exact this
end
