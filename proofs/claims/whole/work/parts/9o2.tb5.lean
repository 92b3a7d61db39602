/-- where a call goes -/
def cTo (g : rd_G) (x : Int64) : Int32 := if fdn g x < gd g then nI (fdn g x) else -1
/-- views of the reference that differ in what is blamed and where calls go -/
def re5 (w w' : q_V) : Prop := (∀ k, k ≠ 2412 → k ≠ 2413 → q_i w' k = q_i w k) ∧ q_j w' = q_j w ∧ (∀ k, k ≠ 2415 → q_a w' k = q_a w k) ∧ q_b w' = q_b w ∧ q_f w' = q_f w ∧ q_c w' = q_c w ∧ q_n w' = q_n w
def in5 (g : rd_G) (e' : Nat) (R : Nat → Nat → Int32) (w : q_V) (suf : rd_K) (u : q_V) : Prop := re5 w u ∧ br (min e' (rdP g suf)) u ∧ (∀ x, (∀ c, c ∈ suf → c.2.2.2 ≠ x) → q_a u 2415 x = R 1 x) ∧ ∀ c, c ∈ suf → q_a u 2415 c.2.2.2 = cTo g c.1
section
variable {g : rd_G} {i n p i' n' q d k s l b e e' D Bd : Nat} {C : Nat → Int32} {r : Int32} {R : Nat → Nat → Int32} {K : rd_K} {A : rd_A} {v w v0 w0 v1 w1 u : q_V} {f x : Int32}
set_option maxHeartbeats 200000 in
theorem sK_get {R0 : Nat → Int32} {c : Int64 × Nat × Nat × Nat} {suf : rd_K} : ∀ pre : rd_K, sK g q R0 w (pre ++ c :: suf) → (q_b w 2434 suf.length = c.1 ∧ q_a w 2435 suf.length = nI c.2.1 ∧ q_a w 2436 suf.length = nI c.2.2.1 ∧ q_a w 2437 suf.length = nI c.2.2.2) ∧ c.2.1 ≤ gm g ∧ c.2.2.2 < q ∧ ∀ c', c' ∈ suf → c'.2.2.2 < c.2.2.2 := by
  intro pre
  induction pre with
  | nil => intro h; exact ⟨h.1.1, h.1.2.1, h.1.2.2.1, h.1.2.2.2.2⟩
  | cons a t ih => intro h; exact ih h.2
set_option maxHeartbeats 200000 in
theorem re5_b {x y : Int32} (h : re5 w u) (hv : w1 = u ∨ w1 = q_si (q_si u 2412 x) 2413 y) : re5 w w1 := by
  rcases hv with hv | hv
  · rw [hv]; exact h
  · rw [hv]; exact ⟨fun k h1 h2 => by rw [q_i_ne h2, q_i_ne h1]; exact h.1 k h1 h2, h.2⟩
set_option maxHeartbeats 200000 in
/-- every call gets its goal -/
theorem t_L25 (ok : rd_ok (reb g v w)) (hR : sR g i 0 q d r R K w) (hb : br e' w) (hq : q < 4000) (hK : K.length < 1600) (h3 : q_i w 2433 = nI (gd g)) (ht : ∀ j, j < gd g → q_b w 2427 j = gn g j ∧ q_a w 2428 j = gp g j) : ∃ u, fX12_text_b23 w = some u ∧ in5 g e' R w K u := by
  have hL : gL g ≤ 3000 := ok.1
  have hm : gm g ≤ 3000 := ok.2.2.1.2.2
  have hN : rd_N = 1000000 := rfl
  have hg : gd g ≤ 300 := ok.2.2.2.1
  have he := br_le hb
  suffices H : ∀ t pre suf u N, pre.length = t → K = pre ++ suf → t < N → in5 g e' R w suf u → ∃ u', fX12_text_L25 N (nI suf.length) u = some u' ∧ in5 g e' R w K u' by
    refine H K.length K [] w q_N rfl (by rw [List.append_nil]) (by unfold q_N; omega) ⟨⟨fun _ _ _ => rfl, rfl, fun _ _ => rfl, rfl, rfl, rfl, rfl⟩, ?_, fun x _ => ?_, fun c hc => absurd hc (by simp)⟩
    · show br (min e' rd_N) w
      rw [show min e' rd_N = e' by omega]; exact hb
    · have : q_a w (rdj 1) = R 1 := hR.2.1 1 (by omega)
      rw [show (2415 : Nat) = rdj 1 from rfl, this]
  intro t
  induction t with
  | zero =>
    intro pre suf u N h1 h2 h3' I
    obtain ⟨N, rfl⟩ : ∃ y, N = y + 1 := ⟨N - 1, by omega⟩
    have : pre = [] := List.length_eq_zero_iff.1 h1
    subst this
    rw [List.nil_append] at h2
    subst h2
    rw [fX12_text_L25, I.1.1 2438 (by omega) (by omega), hR.1.2.2.2.2.2.1, if_pos (ni_ple (Nat.le_refl _) (by omega))]
    exact ⟨u, rfl, I⟩
  | succ t ih =>
    intro pre suf u N h1 h2 h3' I
    obtain ⟨N, rfl⟩ : ∃ y, N = y + 1 := ⟨N - 1, by omega⟩
    obtain ⟨pre', c, rfl⟩ : ∃ pre' c, pre = pre' ++ [c] := by
      rcases List.eq_nil_or_concat pre with z | ⟨a, b, z⟩
      · rw [z] at h1; exact absurd h1 (by simp)
      · exact ⟨a, b, by rw [z, List.concat_eq_append]⟩
    rw [List.append_assoc, List.singleton_append] at h2
    have hl : suf.length < K.length := by rw [h2, List.length_append, List.length_cons]; omega
    have sk := hR.2.2.1
    rw [h2] at sk
    obtain ⟨⟨s1, s2, s3, s4⟩, s5, s6, s7⟩ := sK_get pre' sk
    obtain ⟨I1, I2, I3, I4⟩ := I
    have hin : ¬ (nI suf.length < 0 ∨ 1600 ≤ (nI suf.length).toNatClampNeg) := ni_nin (by omega) (by omega)
    have mc : (nI suf.length).toNatClampNeg = suf.length := ni_clamp (by omega)
    have hin2 : ¬ (nI suf.length < 0 ∨ 1600 ≤ suf.length) := by have := hin; rw [mc] at this; exact this
    have hiq : ¬ (nI c.2.2.2 < 0 ∨ 4000 ≤ (nI c.2.2.2).toNatClampNeg) := ni_nin (by omega) (by omega)
    have h08 : q_i u 2408 = 0 := (I1.1 2408 (by omega) (by omega)).trans hR.1.1
    have hpl : q_a u 2405 c.2.1 = nI (tka g c.2.1) := by rw [I1.2.2.1 2405 (by omega)]; exact (ok.2.2.2.2.2.2.2 c.2.1 (by show c.2.1 < gm g + 1; omega)).2.1
    have hta : tka g c.2.1 ≤ gL g := (tk_al ok.1 _).2
    have fin : fX12_fine u = some (1, u) := by
      unfold fX12_fine fX12_fine_b12
      rw [if_pos h08, if_neg (by decide)]
    have fs := fd_s (g := g) (x := c.1) (gd g) 0
    have du : fX12_dutyOf c.1 u = some (cTo g c.1, u) := by
      rw [r_dutyOf (D := gd g) (f := fdn g c.1) (nm := gn g) ((I1.1 2433 (by omega) (by omega)).trans h3) (by omega) (fun j hj => by rw [I1.2.2.2.1]; exact (ht j hj).1) (fun m hm _ => fs.2.2 m (by omega) hm) (fun hf => (fs.1 (by show fdn g c.1 < 0 + gd g; omega)).2)]
      rfl
    -- the write
    have go : ∀ u2, (∃ x y, u2 = u ∨ u2 = q_si (q_si u 2412 x) 2413 y) → br (min e' (rdP g (c :: suf))) u2 → ∃ u', fX12_text_b97 (nI suf.length) (cTo g c.1) (fun xn1_ S_ => fX12_text_L25 N xn1_ S_) u2 = some u' ∧ in5 g e' R w K u' := by
      intro u2 hu hb2
      obtain ⟨x, y, hu⟩ := hu
      have r2 := re5_b I1 hu
      have ra : q_a u2 = q_a u := by
        rcases hu with z | z
        · rw [z]
        · rw [z]; rfl
      unfold fX12_text_b97
      rw [if_neg hin, mc, ra, I1.2.2.1 2437 (by omega), s4, if_neg hiq, q_lt_s, q_lt_s, ni_add1, ni_clamp (show c.2.2.2 < 2147483648 by omega)]
      have := ih pre' (c :: suf) (q_sa u2 2415 (upd (q_a u 2415) c.2.2.2 (cTo g c.1))) N (by rw [List.length_append, List.length_singleton] at h1; omega) h2 (by omega) ⟨⟨r2.1, r2.2.1, fun k hk => by rw [q_a_sa, if_neg hk]; exact r2.2.2.1 k hk, r2.2.2.2⟩, hb2, fun x hx => ?_, fun c' hc' => ?_⟩
      · rw [List.length_cons] at this; exact this
      · rw [q_a_sa, if_pos rfl, upd_ne (fun z => hx c (List.mem_cons_self ..) z.symm)]
        exact I3 x (fun c' hc' => hx c' (List.mem_cons_of_mem _ hc'))
      · rw [q_a_sa, if_pos rfl]
        rcases List.mem_cons.1 hc' with z | z
        · rw [z, upd_at]
        · have := s7 c' z
          rw [upd_ne (by omega)]; exact I4 c' z
    have rP : rdP g (c :: suf) = min (bv g c) (rdP g suf) := rfl
    rw [fX12_text_L25, I1.1 2438 (by omega) (by omega), hR.1.2.2.2.2.2.1, if_neg (ni_nle (by omega) (by omega)), fin, q_bd_s, if_neg (show ¬ (1 : Int32) = 0 by decide), if_neg hin, mc, I1.2.2.2.1, s1, du, q_bd_s, I1.2.2.1 2435 (by omega), I1.2.2.1 2428 (by omega), I1.2.2.1 2436 (by omega), s2, s3, if_neg hin2]
    by_cases cf : fdn g c.1 < gd g
    · have ct : cTo g c.1 = nI (fdn g c.1) := if_pos cf
      have hif : ¬ (cTo g c.1 < 0 ∨ 320 ≤ (cTo g c.1).toNatClampNeg) := by rw [ct]; exact ni_nin (by omega) (by omega)
      rw [if_neg (show ¬ cTo g c.1 = -1 by rw [ct]; exact m1_n (by omega)), if_neg hif, show (cTo g c.1).toNatClampNeg = fdn g c.1 by rw [ct]; exact ni_clamp (by omega), (ht _ cf).2]
      by_cases cp : gp g (fdn g c.1) = nI c.2.2.1
      · rw [if_neg hin2, if_pos cp]
        refine go u ⟨0, 0, Or.inl rfl⟩ ?_
        have : bv g c = rd_N := by unfold bv; rw [if_pos cf, if_pos cp]
        rw [rP, this, show min e' (min rd_N (rdP g suf)) = min e' (rdP g suf) by omega]; exact I2
      · rw [if_neg hin2, if_neg cp, if_neg hin2]
        obtain ⟨u2, x1, x2, x3⟩ := r_blm (g := g) (x := 7) I2 h08 (t := c.2.1) (by omega) hpl (by omega) (by omega) (by omega)
        rw [show (7 : Int32) = nI 7 from rfl, x1, q_bv_s]
        refine go u2 ⟨_, _, x3⟩ ?_
        have : bv g c = 16 * tka g c.2.1 + 7 := by unfold bv; rw [if_pos cf, if_neg cp]
        rw [rP, this, show min e' (min (16 * tka g c.2.1 + 7) (rdP g suf)) = min (min e' (rdP g suf)) (16 * tka g c.2.1 + 7) by omega]; exact x2
    · rw [if_pos (show cTo g c.1 = -1 from if_neg cf)]
      obtain ⟨u2, x1, x2, x3⟩ := r_blm (g := g) (x := 5) I2 h08 (t := c.2.1) (by omega) hpl (by omega) (by omega) (by omega)
      rw [show (5 : Int32) = nI 5 from rfl, x1, q_bv_s]
      refine go u2 ⟨_, _, x3⟩ ?_
      have : bv g c = 16 * tka g c.2.1 + 5 := by unfold bv; rw [if_neg cf]
      rw [rP, this, show min e' (min (16 * tka g c.2.1 + 5) (rdP g suf)) = min (min e' (rdP g suf)) (16 * tka g c.2.1 + 5) by omega]; exact x2
end
